set_option maxRecDepth 20000 in
theorem ggL_isRefused_X4_sales : GoodIn wsL_isRefused wsX4_sales := goodIn_r _ [9, 10, 349, 350, 351, 352, 353, 354] (by decide +kernel) (by decide +kernel)
set_option maxRecDepth 20000 in
theorem gL_isRefused_X4_sales : GoodIn wsL_isRefused (wsV RL 98 RX4 yX4_sales wsX4_sales) := goodIn_app (goodIn_of _ (by decide +kernel)) ggL_isRefused_X4_sales
set_option maxRecDepth 20000 in
theorem ggL_isRefused_L_all : GoodIn wsL_isRefused wsL_all := goodIn_ca (goodIn_ca (goodIn_r _ [14, 15, 16, 17, 18, 5, 6, 7, 8, 9, 10, 19, 20, 21, 22, 23, 24, 25, 13, 26, 27, 28, 29, 30, 31, 32, 33, 34, 35, 36, 37, 38, 39, 40, 41, 42, 43, 44, 45, 46, 47, 48, 49, 50, 51, 52, 53, 54, 55, 56, 57, 58, 59, 60, 61, 62, 63, 64, 65, 66, 67, 68, 69, 70, 71, 72, 73, 74, 75, 76, 77, 78, 79, 80, 81, 82, 83, 84, 85, 86, 87, 88, 89, 90, 91, 92, 93, 94, 95, 96, 97, 98, 99, 100, 101, 102, 103, 104, 105, 106, 107, 108, 109, 110, 111, 112, 113, 114, 115, 116, 117, 118, 119, 120, 121, 122, 123, 124, 125, 126, 127, 128, 129, 130, 131, 132, 133, 134, 135, 136, 137, 138, 139, 140, 141, 142, 143, 144, 145, 146, 147, 148, 149, 150, 151, 152, 153, 154, 155, 156, 349, 350, 351, 352, 353, 354, 355, 356, 357, 358, 359, 360, 361, 362, 363, 364, 365, 366, 367, 368, 369, 370, 371, 372, 373, 374, 375] (by decide +kernel) (by decide +kernel)) (goodIn_sub (fun _ h => List.mem_cons_of_mem _ (List.mem_append_left _ (List.mem_append_left _ (List.mem_append_right _ h)))) (by decide +kernel))) (goodIn_sub (fun _ h => List.mem_cons_of_mem _ (List.mem_append_left _ (List.mem_append_right _ h))) (by decide +kernel))
set_option maxRecDepth 20000 in
theorem gL_isRefused_L_all : GoodIn wsL_isRefused (va_wsS RL 119 yL_all wsL_all) := goodIn_app (goodIn_of _ (by decide +kernel)) ggL_isRefused_L_all
set_option maxRecDepth 20000 in
theorem ggL_isRefused_L_desk : GoodIn wsL_isRefused wsL_desk := goodIn_ca (goodIn_ca (goodIn_r _ [159, 160, 161, 1, 4, 162, 163, 164, 8, 165, 125, 126, 166, 167, 168, 169, 146, 147, 148, 149, 150, 170, 171, 172, 173, 174, 175, 176, 177, 178, 127, 179, 180, 181, 182, 183, 184, 54, 10, 128, 129, 130, 131, 132, 185, 186, 187, 188, 46, 189, 190, 191, 192, 193, 194, 195, 56, 196, 197, 198, 199, 200, 201, 202, 203, 204, 205, 206, 207, 208, 209, 210, 211, 212, 154, 213, 214, 215, 216, 217, 218, 219, 220, 221, 222, 223, 224, 225, 226, 227, 228, 229, 230, 231, 232, 233, 234, 235, 236, 237, 238, 239, 240, 241, 242, 243, 244, 142, 143, 144, 145, 151, 152, 153, 155, 156, 245, 246, 247, 248, 249, 250, 251, 252, 121, 122, 123, 124, 133, 134, 135, 136, 137, 138, 139, 140, 141, 372, 373, 374, 375, 349, 350, 351, 352, 353, 354, 355, 356, 357, 358, 359, 360, 361, 362, 363, 368, 369, 370, 371] (by decide +kernel) (by decide +kernel)) (goodIn_sub (fun _ h => List.mem_cons_of_mem _ (List.mem_append_left _ (List.mem_append_right _ h))) (by decide +kernel))) (goodIn_sub (fun _ h => List.mem_cons_of_mem _ (List.mem_append_right _ h)) (by decide +kernel))
set_option maxRecDepth 20000 in
theorem gL_isRefused_L_desk : GoodIn wsL_isRefused (va_wsS RL 123 yL_desk wsL_desk) := goodIn_app (goodIn_of _ (by decide +kernel)) ggL_isRefused_L_desk
set_option maxRecDepth 20000 in
theorem ggL_isRefused_L_of : GoodIn wsL_isRefused wsL_of := goodIn_ca (goodIn_r _ [255, 256, 3, 31, 32, 33, 8, 34, 35, 36, 37, 38, 39, 40, 41, 42, 43, 44, 45, 46, 47, 48, 49, 50, 51, 52, 53, 54, 55, 56, 57, 58, 59, 60, 61, 62, 63, 64, 65, 66, 67, 68, 69, 70, 71, 72, 73, 74, 75, 76, 77, 78, 79, 80, 81, 82, 83, 84, 112, 113, 114, 115, 116, 117, 118, 119, 120, 89, 90, 91, 92, 85, 86, 87, 88, 93, 94, 95, 96, 97, 98, 99, 100, 101, 102, 103, 104, 105, 106, 107, 108, 109, 110, 111, 355, 356, 357, 358, 359, 360, 361, 362, 363, 349, 350, 351, 352, 353, 354, 364, 365, 366, 367] (by decide +kernel) (by decide +kernel)) (goodIn_sub (fun _ h => List.mem_cons_of_mem _ (List.mem_append_left _ (List.mem_append_left _ (List.mem_append_right _ h)))) (by decide +kernel))
set_option maxRecDepth 20000 in
theorem gL_isRefused_L_of : GoodIn wsL_isRefused (va_wsS RL 115 yL_of wsL_of) := goodIn_app (goodIn_of _ (by decide +kernel)) ggL_isRefused_L_of
set_option maxRecDepth 20000 in
theorem ggL_isRefused_L_back : GoodIn wsL_isRefused wsL_back := goodIn_ca (goodIn_ca (goodIn_ca (goodIn_r _ [259, 256, 160, 161, 3, 1, 4, 260, 261, 262, 8, 263, 125, 126, 177, 178, 264, 23, 117, 118, 119, 120, 40, 41, 36, 37, 38, 39, 42, 43, 44, 45, 46, 89, 90, 91, 54, 92, 56, 265, 266, 267, 207, 208, 209, 268, 269, 270, 271, 272, 116, 273, 274, 275, 276, 127, 277, 278, 279, 280, 281, 133, 134, 135, 136, 137, 138, 139, 140, 141, 282, 283, 284, 285, 74, 286, 287, 288, 289, 290, 291, 292, 293, 223, 224, 225, 97, 52, 53, 55, 57, 58, 59, 60, 61, 62, 63, 65, 66, 67, 68, 69, 210, 211, 212, 154, 213, 214, 215, 216, 217, 218, 219, 220, 221, 222, 226, 227, 228, 229, 230, 231, 232, 233, 234, 235, 236, 237, 238, 239, 249, 250, 251, 252, 156, 294, 295, 296, 297, 298, 299, 300, 301, 302, 303, 304, 305, 306, 307, 308, 84, 183, 184, 79, 309, 310, 35, 146, 147, 148, 149, 150, 185, 186, 187, 188, 10, 189, 190, 191, 192, 193, 194, 195, 196, 197, 198, 311, 312, 313, 314, 315, 316, 317, 318, 319, 320, 321, 322, 323, 324, 325, 326, 327, 328, 329, 199, 200, 201, 202, 330, 331, 332, 333, 355, 356, 357, 358, 359, 360, 361, 362, 363, 349, 350, 351, 352, 353, 354, 364, 365, 366, 367, 368, 369, 370, 371, 372, 373, 374, 375] (by decide +kernel) (by decide +kernel)) (goodIn_sub (fun _ h => List.mem_cons_of_mem _ (List.mem_append_left _ (List.mem_append_right _ h))) (by decide +kernel))) (goodIn_sub (fun _ h => List.mem_cons_of_mem _ (List.mem_append_right _ h)) (by decide +kernel))) (goodIn_sub (fun _ h => List.mem_cons_of_mem _ (List.mem_append_left _ (List.mem_append_left _ (List.mem_append_right _ h)))) (by decide +kernel))
set_option maxRecDepth 20000 in
theorem gL_isRefused_L_back : GoodIn wsL_isRefused (va_wsS RL 128 yL_back wsL_back) := goodIn_app (goodIn_of _ (by decide +kernel)) ggL_isRefused_L_back
set_option maxRecDepth 20000 in
theorem ggL_isRefused_L_add : GoodIn wsL_isRefused wsL_add := goodIn_ca (goodIn_ca (goodIn_ca (goodIn_r _ [336, 256, 160, 161, 3, 1, 4, 337, 338, 339, 8, 340, 125, 126, 177, 178, 272, 341, 309, 310, 61, 36, 37, 38, 39, 40, 41, 42, 43, 44, 45, 46, 146, 147, 148, 149, 150, 265, 266, 267, 311, 312, 313, 314, 193, 194, 315, 316, 317, 63, 318, 319, 320, 54, 321, 322, 56, 355, 356, 357, 358, 359, 360, 361, 362, 363, 364, 365, 366, 367, 349, 350, 351, 352, 353, 354, 372, 373, 374, 375] (by decide +kernel) (by decide +kernel)) (goodIn_sub (fun _ h => List.mem_cons_of_mem _ (List.mem_append_left _ (List.mem_append_right _ h))) (by decide +kernel))) (goodIn_sub (fun _ h => List.mem_cons_of_mem _ (List.mem_append_right _ h)) (by decide +kernel))) (goodIn_sub (fun _ h => List.mem_cons_of_mem _ (List.mem_append_left _ (List.mem_append_left _ (List.mem_append_right _ h)))) (by decide +kernel))
set_option maxRecDepth 20000 in
theorem gL_isRefused_L_add : GoodIn wsL_isRefused (va_wsS RL 132 yL_add wsL_add) := goodIn_app (goodIn_of _ (by decide +kernel)) ggL_isRefused_L_add
set_option maxRecDepth 20000 in
theorem ggL_isRefused_L_pay : GoodIn wsL_isRefused wsL_pay := goodIn_ca (goodIn_ca (goodIn_r _ [344, 256, 161, 3, 4, 345, 346, 347, 8, 348, 177, 178, 272, 341, 127, 35, 36, 37, 38, 39, 40, 41, 42, 43, 44, 45, 46, 323, 324, 325, 54, 326, 56, 327, 57, 328, 329, 291, 97, 52, 53, 55, 58, 59, 60, 61, 62, 63, 65, 66, 67, 68, 69, 355, 356, 357, 358, 359, 360, 361, 362, 363, 349, 350, 351, 352, 353, 354, 364, 365, 366, 367] (by decide +kernel) (by decide +kernel)) (goodIn_sub (fun _ h => List.mem_cons_of_mem _ (List.mem_append_right _ h)) (by decide +kernel))) (goodIn_sub (fun _ h => List.mem_cons_of_mem _ (List.mem_append_left _ (List.mem_append_left _ (List.mem_append_right _ h)))) (by decide +kernel))
set_option maxRecDepth 20000 in
theorem gL_isRefused_L_pay : GoodIn wsL_isRefused (va_wsS RL 134 yL_pay wsL_pay) := goodIn_app (goodIn_of _ (by decide +kernel)) ggL_isRefused_L_pay
set_option maxRecDepth 20000 in
theorem ggL_isRefused_X4_kept : GoodIn wsL_isRefused wsX4_kept := goodIn_ca (goodIn_r _ [115, 116, 117, 118, 119, 8, 120, 40, 41, 36, 37, 38, 39, 42, 43, 44, 45, 46, 89, 90, 91, 54, 92, 56, 364, 365, 366, 367, 349, 350, 351, 352, 353, 354, 355, 356, 357, 358, 359, 360, 361, 362, 363] (by decide +kernel) (by decide +kernel)) (goodIn_sub (fun _ h => List.mem_cons_of_mem _ (List.mem_append_left _ (List.mem_append_left _ (List.mem_append_right _ h)))) (by decide +kernel))
set_option maxRecDepth 20000 in
theorem gL_isRefused_X4_kept : GoodIn wsL_isRefused (wsV RL 70 RX4 yX4_kept wsX4_kept) := goodIn_app (goodIn_of _ (by decide +kernel)) ggL_isRefused_X4_kept
theorem dL_isRefused_0 : decode cL_isRefused 0 = .ok (.iload_n 1, 1) := by decide +kernel
theorem dL_isRefused_1 : decode cL_isRefused 1 = .ok (.iconst 2, 1) := by decide +kernel
theorem dL_isRefused_2 : decode cL_isRefused 2 = .ok (.irem, 1) := by decide +kernel
theorem dL_isRefused_3 : decode cL_isRefused 3 = .ok (.ifCond .ne 7, 3) := by decide +kernel
theorem dL_isRefused_6 : decode cL_isRefused 6 = .ok (.iconst 1, 1) := by decide +kernel
theorem dL_isRefused_7 : decode cL_isRefused 7 = .ok (.goto 4, 3) := by decide +kernel
theorem dL_isRefused_10 : decode cL_isRefused 10 = .ok (.iconst 0, 1) := by decide +kernel
theorem dL_isRefused_11 : decode cL_isRefused 11 = .ok (.istore 4, 2) := by decide +kernel
theorem dL_isRefused_13 : decode cL_isRefused 13 = .ok (.iload 4, 2) := by decide +kernel
theorem dL_isRefused_15 : decode cL_isRefused 15 = .ok (.ifCond .eq 12, 3) := by decide +kernel
theorem dL_isRefused_18 : decode cL_isRefused 18 = .ok (.iconst (-1), 1) := by decide +kernel
theorem dL_isRefused_19 : decode cL_isRefused 19 = .ok (.iload_n 1, 1) := by decide +kernel
theorem dL_isRefused_20 : decode cL_isRefused 20 = .ok (.bipush 40, 2) := by decide +kernel
theorem dL_isRefused_22 : decode cL_isRefused 22 = .ok (.irem, 1) := by decide +kernel
theorem dL_isRefused_23 : decode cL_isRefused 23 = .ok (.isub, 1) := by decide +kernel
theorem dL_isRefused_24 : decode cL_isRefused 24 = .ok (.goto 10, 3) := by decide +kernel
theorem dL_isRefused_27 : decode cL_isRefused 27 = .ok (.bipush 10, 2) := by decide +kernel
theorem dL_isRefused_29 : decode cL_isRefused 29 = .ok (.iload_n 1, 1) := by decide +kernel
theorem dL_isRefused_30 : decode cL_isRefused 30 = .ok (.bipush 40, 2) := by decide +kernel
theorem dL_isRefused_32 : decode cL_isRefused 32 = .ok (.irem, 1) := by decide +kernel
theorem dL_isRefused_33 : decode cL_isRefused 33 = .ok (.iadd, 1) := by decide +kernel
theorem dL_isRefused_34 : decode cL_isRefused 34 = .ok (.istore 5, 2) := by decide +kernel
theorem dL_isRefused_36 : decode cL_isRefused 36 = .ok (.iload 4, 2) := by decide +kernel
theorem dL_isRefused_38 : decode cL_isRefused 38 = .ok (.ifCond .eq 12, 3) := by decide +kernel
theorem dL_isRefused_41 : decode cL_isRefused 41 = .ok (.iconst (-1), 1) := by decide +kernel
theorem dL_isRefused_42 : decode cL_isRefused 42 = .ok (.iload_n 1, 1) := by decide +kernel
theorem dL_isRefused_43 : decode cL_isRefused 43 = .ok (.bipush 40, 2) := by decide +kernel
theorem dL_isRefused_45 : decode cL_isRefused 45 = .ok (.irem, 1) := by decide +kernel
theorem dL_isRefused_46 : decode cL_isRefused 46 = .ok (.isub, 1) := by decide +kernel
theorem dL_isRefused_47 : decode cL_isRefused 47 = .ok (.goto 9, 3) := by decide +kernel
theorem dL_isRefused_50 : decode cL_isRefused 50 = .ok (.iconst 4, 1) := by decide +kernel
theorem dL_isRefused_51 : decode cL_isRefused 51 = .ok (.iload_n 1, 1) := by decide +kernel
theorem dL_isRefused_52 : decode cL_isRefused 52 = .ok (.bipush 40, 2) := by decide +kernel
theorem dL_isRefused_54 : decode cL_isRefused 54 = .ok (.irem, 1) := by decide +kernel
theorem dL_isRefused_55 : decode cL_isRefused 55 = .ok (.iadd, 1) := by decide +kernel
theorem dL_isRefused_56 : decode cL_isRefused 56 = .ok (.istore 6, 2) := by decide +kernel
theorem dL_isRefused_58 : decode cL_isRefused 58 = .ok (.iload 4, 2) := by decide +kernel
theorem dL_isRefused_60 : decode cL_isRefused 60 = .ok (.ifCond .eq 12, 3) := by decide +kernel
theorem dL_isRefused_63 : decode cL_isRefused 63 = .ok (.iconst (-1), 1) := by decide +kernel
theorem dL_isRefused_64 : decode cL_isRefused 64 = .ok (.iload_n 1, 1) := by decide +kernel
theorem dL_isRefused_65 : decode cL_isRefused 65 = .ok (.bipush 40, 2) := by decide +kernel
theorem dL_isRefused_67 : decode cL_isRefused 67 = .ok (.irem, 1) := by decide +kernel
theorem dL_isRefused_68 : decode cL_isRefused 68 = .ok (.isub, 1) := by decide +kernel
theorem dL_isRefused_69 : decode cL_isRefused 69 = .ok (.goto 12, 3) := by decide +kernel
theorem dL_isRefused_72 : decode cL_isRefused 72 = .ok (.aload_n 0, 1) := by decide +kernel
theorem dL_isRefused_73 : decode cL_isRefused 73 = .ok (.invokevirtual 98, 3) := by decide +kernel
theorem dL_isRefused_76 : decode cL_isRefused 76 = .ok (.iload_n 1, 1) := by decide +kernel
theorem dL_isRefused_77 : decode cL_isRefused 77 = .ok (.bipush 40, 2) := by decide +kernel
theorem dL_isRefused_79 : decode cL_isRefused 79 = .ok (.irem, 1) := by decide +kernel
theorem dL_isRefused_80 : decode cL_isRefused 80 = .ok (.iadd, 1) := by decide +kernel
theorem dL_isRefused_81 : decode cL_isRefused 81 = .ok (.istore 7, 2) := by decide +kernel
theorem dL_isRefused_83 : decode cL_isRefused 83 = .ok (.iload 4, 2) := by decide +kernel
theorem dL_isRefused_85 : decode cL_isRefused 85 = .ok (.ifCond .eq 7, 3) := by decide +kernel
theorem dL_isRefused_88 : decode cL_isRefused 88 = .ok (.iconst 0, 1) := by decide +kernel
theorem dL_isRefused_89 : decode cL_isRefused 89 = .ok (.goto 10, 3) := by decide +kernel
theorem dL_isRefused_92 : decode cL_isRefused 92 = .ok (.bipush 21, 2) := by decide +kernel
theorem dL_isRefused_94 : decode cL_isRefused 94 = .ok (.iload_n 1, 1) := by decide +kernel
theorem dL_isRefused_95 : decode cL_isRefused 95 = .ok (.bipush 40, 2) := by decide +kernel
theorem dL_isRefused_97 : decode cL_isRefused 97 = .ok (.irem, 1) := by decide +kernel
theorem dL_isRefused_98 : decode cL_isRefused 98 = .ok (.iadd, 1) := by decide +kernel
theorem dL_isRefused_99 : decode cL_isRefused 99 = .ok (.istore 8, 2) := by decide +kernel
theorem dL_isRefused_101 : decode cL_isRefused 101 = .ok (.aload_n 0, 1) := by decide +kernel
theorem dL_isRefused_102 : decode cL_isRefused 102 = .ok (.aload_n 3, 1) := by decide +kernel
theorem dL_isRefused_103 : decode cL_isRefused 103 = .ok (.invokestatic 119, 3) := by decide +kernel
theorem dL_isRefused_106 : decode cL_isRefused 106 = .ok (.lstore 9, 2) := by decide +kernel
theorem dL_isRefused_108 : decode cL_isRefused 108 = .ok (.aload_n 0, 1) := by decide +kernel
theorem dL_isRefused_109 : decode cL_isRefused 109 = .ok (.iconst 0, 1) := by decide +kernel
theorem dL_isRefused_110 : decode cL_isRefused 110 = .ok (.iload 5, 2) := by decide +kernel
theorem dL_isRefused_112 : decode cL_isRefused 112 = .ok (.iconst 1, 1) := by decide +kernel
theorem dL_isRefused_113 : decode cL_isRefused 113 = .ok (.iconst 0, 1) := by decide +kernel
theorem dL_isRefused_114 : decode cL_isRefused 114 = .ok (.iconst 0, 1) := by decide +kernel
theorem dL_isRefused_115 : decode cL_isRefused 115 = .ok (.invokestatic 123, 3) := by decide +kernel
theorem dL_isRefused_118 : decode cL_isRefused 118 = .ok (.ldc 41, 2) := by decide +kernel
theorem dL_isRefused_120 : decode cL_isRefused 120 = .ok (.if_icmp .ne 186, 3) := by decide +kernel
theorem dL_isRefused_123 : decode cL_isRefused 123 = .ok (.aload_n 0, 1) := by decide +kernel
theorem dL_isRefused_124 : decode cL_isRefused 124 = .ok (.iconst 0, 1) := by decide +kernel
theorem dL_isRefused_125 : decode cL_isRefused 125 = .ok (.iconst 3, 1) := by decide +kernel
theorem dL_isRefused_126 : decode cL_isRefused 126 = .ok (.iload 4, 2) := by decide +kernel
theorem dL_isRefused_128 : decode cL_isRefused 128 = .ok (.ifCond .eq 7, 3) := by decide +kernel
theorem dL_isRefused_131 : decode cL_isRefused 131 = .ok (.iconst 0, 1) := by decide +kernel
theorem dL_isRefused_132 : decode cL_isRefused 132 = .ok (.goto 5, 3) := by decide +kernel
theorem dL_isRefused_135 : decode cL_isRefused 135 = .ok (.ldc 127, 2) := by decide +kernel
theorem dL_isRefused_137 : decode cL_isRefused 137 = .ok (.iconst 0, 1) := by decide +kernel
theorem dL_isRefused_138 : decode cL_isRefused 138 = .ok (.iconst 0, 1) := by decide +kernel
theorem dL_isRefused_139 : decode cL_isRefused 139 = .ok (.invokestatic 123, 3) := by decide +kernel
theorem dL_isRefused_142 : decode cL_isRefused 142 = .ok (.ldc 41, 2) := by decide +kernel
theorem dL_isRefused_144 : decode cL_isRefused 144 = .ok (.if_icmp .ne 162, 3) := by decide +kernel
theorem dL_isRefused_147 : decode cL_isRefused 147 = .ok (.aload_n 0, 1) := by decide +kernel
theorem dL_isRefused_148 : decode cL_isRefused 148 = .ok (.iconst 0, 1) := by decide +kernel
theorem dL_isRefused_149 : decode cL_isRefused 149 = .ok (.iconst 3, 1) := by decide +kernel
theorem dL_isRefused_150 : decode cL_isRefused 150 = .ok (.iconst 1, 1) := by decide +kernel
theorem dL_isRefused_151 : decode cL_isRefused 151 = .ok (.iload 4, 2) := by decide +kernel
theorem dL_isRefused_153 : decode cL_isRefused 153 = .ok (.ifCond .eq 7, 3) := by decide +kernel
theorem dL_isRefused_156 : decode cL_isRefused 156 = .ok (.iconst (-1), 1) := by decide +kernel
theorem dL_isRefused_157 : decode cL_isRefused 157 = .ok (.goto 5, 3) := by decide +kernel
theorem dL_isRefused_160 : decode cL_isRefused 160 = .ok (.ldc 127, 2) := by decide +kernel
theorem dL_isRefused_162 : decode cL_isRefused 162 = .ok (.iconst 0, 1) := by decide +kernel
theorem dL_isRefused_163 : decode cL_isRefused 163 = .ok (.invokestatic 123, 3) := by decide +kernel
theorem dL_isRefused_166 : decode cL_isRefused 166 = .ok (.ldc 41, 2) := by decide +kernel
theorem dL_isRefused_168 : decode cL_isRefused 168 = .ok (.if_icmp .ne 138, 3) := by decide +kernel
theorem dL_isRefused_171 : decode cL_isRefused 171 = .ok (.aload_n 0, 1) := by decide +kernel
theorem dL_isRefused_172 : decode cL_isRefused 172 = .ok (.iconst 0, 1) := by decide +kernel
theorem dL_isRefused_173 : decode cL_isRefused 173 = .ok (.iconst 3, 1) := by decide +kernel
theorem dL_isRefused_174 : decode cL_isRefused 174 = .ok (.iconst 1, 1) := by decide +kernel
theorem dL_isRefused_175 : decode cL_isRefused 175 = .ok (.iconst 0, 1) := by decide +kernel
theorem dL_isRefused_176 : decode cL_isRefused 176 = .ok (.iload 4, 2) := by decide +kernel
theorem dL_isRefused_178 : decode cL_isRefused 178 = .ok (.ifCond .eq 7, 3) := by decide +kernel
theorem dL_isRefused_181 : decode cL_isRefused 181 = .ok (.iconst (-1), 1) := by decide +kernel
theorem dL_isRefused_182 : decode cL_isRefused 182 = .ok (.goto 5, 3) := by decide +kernel
theorem dL_isRefused_185 : decode cL_isRefused 185 = .ok (.ldc 127, 2) := by decide +kernel
theorem dL_isRefused_187 : decode cL_isRefused 187 = .ok (.invokestatic 123, 3) := by decide +kernel
theorem dL_isRefused_190 : decode cL_isRefused 190 = .ok (.ldc 41, 2) := by decide +kernel
theorem dL_isRefused_192 : decode cL_isRefused 192 = .ok (.if_icmp .ne 114, 3) := by decide +kernel
theorem dL_isRefused_195 : decode cL_isRefused 195 = .ok (.aload_n 0, 1) := by decide +kernel
theorem dL_isRefused_196 : decode cL_isRefused 196 = .ok (.iconst 1, 1) := by decide +kernel
theorem dL_isRefused_197 : decode cL_isRefused 197 = .ok (.iload 4, 2) := by decide +kernel
theorem dL_isRefused_199 : decode cL_isRefused 199 = .ok (.ifCond .eq 7, 3) := by decide +kernel
theorem dL_isRefused_202 : decode cL_isRefused 202 = .ok (.iconst 0, 1) := by decide +kernel
theorem dL_isRefused_203 : decode cL_isRefused 203 = .ok (.goto 11, 3) := by decide +kernel
theorem dL_isRefused_206 : decode cL_isRefused 206 = .ok (.sipush 366, 3) := by decide +kernel
theorem dL_isRefused_209 : decode cL_isRefused 209 = .ok (.iload_n 1, 1) := by decide +kernel
theorem dL_isRefused_210 : decode cL_isRefused 210 = .ok (.bipush 40, 2) := by decide +kernel
theorem dL_isRefused_212 : decode cL_isRefused 212 = .ok (.irem, 1) := by decide +kernel
theorem dL_isRefused_213 : decode cL_isRefused 213 = .ok (.iadd, 1) := by decide +kernel
theorem dL_isRefused_214 : decode cL_isRefused 214 = .ok (.iconst 0, 1) := by decide +kernel
theorem dL_isRefused_215 : decode cL_isRefused 215 = .ok (.iconst 0, 1) := by decide +kernel
theorem dL_isRefused_216 : decode cL_isRefused 216 = .ok (.iconst 0, 1) := by decide +kernel
theorem dL_isRefused_217 : decode cL_isRefused 217 = .ok (.invokestatic 123, 3) := by decide +kernel
theorem dL_isRefused_220 : decode cL_isRefused 220 = .ok (.ldc 41, 2) := by decide +kernel
theorem dL_isRefused_222 : decode cL_isRefused 222 = .ok (.if_icmp .ne 84, 3) := by decide +kernel
theorem dL_isRefused_225 : decode cL_isRefused 225 = .ok (.aload_n 0, 1) := by decide +kernel
theorem dL_isRefused_226 : decode cL_isRefused 226 = .ok (.iconst 2, 1) := by decide +kernel
theorem dL_isRefused_227 : decode cL_isRefused 227 = .ok (.iload 5, 2) := by decide +kernel
theorem dL_isRefused_229 : decode cL_isRefused 229 = .ok (.iconst 0, 1) := by decide +kernel
theorem dL_isRefused_230 : decode cL_isRefused 230 = .ok (.iconst 0, 1) := by decide +kernel
theorem dL_isRefused_231 : decode cL_isRefused 231 = .ok (.iconst 0, 1) := by decide +kernel
theorem dL_isRefused_232 : decode cL_isRefused 232 = .ok (.invokestatic 123, 3) := by decide +kernel
theorem dL_isRefused_235 : decode cL_isRefused 235 = .ok (.ldc 41, 2) := by decide +kernel
theorem dL_isRefused_237 : decode cL_isRefused 237 = .ok (.if_icmp .ne 69, 3) := by decide +kernel
theorem dL_isRefused_240 : decode cL_isRefused 240 = .ok (.aload_n 0, 1) := by decide +kernel
theorem dL_isRefused_241 : decode cL_isRefused 241 = .ok (.iconst 5, 1) := by decide +kernel
theorem dL_isRefused_242 : decode cL_isRefused 242 = .ok (.iconst 3, 1) := by decide +kernel
theorem dL_isRefused_243 : decode cL_isRefused 243 = .ok (.iload 4, 2) := by decide +kernel
theorem dL_isRefused_245 : decode cL_isRefused 245 = .ok (.ifCond .eq 7, 3) := by decide +kernel
theorem dL_isRefused_248 : decode cL_isRefused 248 = .ok (.iconst (-1), 1) := by decide +kernel
theorem dL_isRefused_249 : decode cL_isRefused 249 = .ok (.goto 9, 3) := by decide +kernel
theorem dL_isRefused_252 : decode cL_isRefused 252 = .ok (.iconst 5, 1) := by decide +kernel
theorem dL_isRefused_253 : decode cL_isRefused 253 = .ok (.iload_n 1, 1) := by decide +kernel
theorem dL_isRefused_254 : decode cL_isRefused 254 = .ok (.bipush 40, 2) := by decide +kernel
theorem dL_isRefused_256 : decode cL_isRefused 256 = .ok (.irem, 1) := by decide +kernel
theorem dL_isRefused_257 : decode cL_isRefused 257 = .ok (.iadd, 1) := by decide +kernel
theorem dL_isRefused_258 : decode cL_isRefused 258 = .ok (.iconst 0, 1) := by decide +kernel
theorem dL_isRefused_259 : decode cL_isRefused 259 = .ok (.iconst 0, 1) := by decide +kernel
theorem dL_isRefused_260 : decode cL_isRefused 260 = .ok (.invokestatic 123, 3) := by decide +kernel
theorem dL_isRefused_263 : decode cL_isRefused 263 = .ok (.ldc 41, 2) := by decide +kernel
theorem dL_isRefused_265 : decode cL_isRefused 265 = .ok (.if_icmp .ne 41, 3) := by decide +kernel
theorem dL_isRefused_268 : decode cL_isRefused 268 = .ok (.aload_n 0, 1) := by decide +kernel
theorem dL_isRefused_269 : decode cL_isRefused 269 = .ok (.bipush 6, 2) := by decide +kernel
theorem dL_isRefused_271 : decode cL_isRefused 271 = .ok (.iload 5, 2) := by decide +kernel
theorem dL_isRefused_273 : decode cL_isRefused 273 = .ok (.iload_n 1, 1) := by decide +kernel
theorem dL_isRefused_274 : decode cL_isRefused 274 = .ok (.iconst 2, 1) := by decide +kernel
theorem dL_isRefused_275 : decode cL_isRefused 275 = .ok (.irem, 1) := by decide +kernel
theorem dL_isRefused_276 : decode cL_isRefused 276 = .ok (.iconst 0, 1) := by decide +kernel
theorem dL_isRefused_277 : decode cL_isRefused 277 = .ok (.iconst 0, 1) := by decide +kernel
theorem dL_isRefused_278 : decode cL_isRefused 278 = .ok (.invokestatic 123, 3) := by decide +kernel
theorem dL_isRefused_281 : decode cL_isRefused 281 = .ok (.ldc 41, 2) := by decide +kernel
theorem dL_isRefused_283 : decode cL_isRefused 283 = .ok (.if_icmp .ne 23, 3) := by decide +kernel
theorem dL_isRefused_286 : decode cL_isRefused 286 = .ok (.aload_n 0, 1) := by decide +kernel
theorem dL_isRefused_287 : decode cL_isRefused 287 = .ok (.bipush 7, 2) := by decide +kernel
theorem dL_isRefused_289 : decode cL_isRefused 289 = .ok (.iload 5, 2) := by decide +kernel
theorem dL_isRefused_291 : decode cL_isRefused 291 = .ok (.iconst 0, 1) := by decide +kernel
theorem dL_isRefused_292 : decode cL_isRefused 292 = .ok (.iconst 0, 1) := by decide +kernel
theorem dL_isRefused_293 : decode cL_isRefused 293 = .ok (.iconst 0, 1) := by decide +kernel
theorem dL_isRefused_294 : decode cL_isRefused 294 = .ok (.invokestatic 123, 3) := by decide +kernel
theorem dL_isRefused_297 : decode cL_isRefused 297 = .ok (.ldc 41, 2) := by decide +kernel
theorem dL_isRefused_299 : decode cL_isRefused 299 = .ok (.if_icmp .ne 7, 3) := by decide +kernel
theorem dL_isRefused_302 : decode cL_isRefused 302 = .ok (.iconst 1, 1) := by decide +kernel
theorem dL_isRefused_303 : decode cL_isRefused 303 = .ok (.goto 4, 3) := by decide +kernel
theorem dL_isRefused_306 : decode cL_isRefused 306 = .ok (.iconst 0, 1) := by decide +kernel
theorem dL_isRefused_307 : decode cL_isRefused 307 = .ok (.istore 11, 2) := by decide +kernel
theorem dL_isRefused_309 : decode cL_isRefused 309 = .ok (.iconst 3, 1) := by decide +kernel
theorem dL_isRefused_310 : decode cL_isRefused 310 = .ok (.istore 12, 2) := by decide +kernel
theorem dL_isRefused_312 : decode cL_isRefused 312 = .ok (.iload 12, 2) := by decide +kernel
theorem dL_isRefused_314 : decode cL_isRefused 314 = .ok (.bipush 6, 2) := by decide +kernel
theorem dL_isRefused_316 : decode cL_isRefused 316 = .ok (.if_icmp .ge 59, 3) := by decide +kernel
theorem dL_isRefused_319 : decode cL_isRefused 319 = .ok (.iload 11, 2) := by decide +kernel
theorem dL_isRefused_321 : decode cL_isRefused 321 = .ok (.ifCond .eq 54, 3) := by decide +kernel
theorem dL_isRefused_324 : decode cL_isRefused 324 = .ok (.aload_n 0, 1) := by decide +kernel
theorem dL_isRefused_325 : decode cL_isRefused 325 = .ok (.iload 12, 2) := by decide +kernel
theorem dL_isRefused_327 : decode cL_isRefused 327 = .ok (.iload 5, 2) := by decide +kernel
theorem dL_isRefused_329 : decode cL_isRefused 329 = .ok (.iconst 1, 1) := by decide +kernel
theorem dL_isRefused_330 : decode cL_isRefused 330 = .ok (.iconst 0, 1) := by decide +kernel
theorem dL_isRefused_331 : decode cL_isRefused 331 = .ok (.iconst 0, 1) := by decide +kernel
theorem dL_isRefused_332 : decode cL_isRefused 332 = .ok (.invokestatic 123, 3) := by decide +kernel
theorem dL_isRefused_335 : decode cL_isRefused 335 = .ok (.ldc 41, 2) := by decide +kernel
theorem dL_isRefused_337 : decode cL_isRefused 337 = .ok (.if_icmp .ne 29, 3) := by decide +kernel
theorem dL_isRefused_340 : decode cL_isRefused 340 = .ok (.iload 12, 2) := by decide +kernel
theorem dL_isRefused_342 : decode cL_isRefused 342 = .ok (.iconst 5, 1) := by decide +kernel
theorem dL_isRefused_343 : decode cL_isRefused 343 = .ok (.if_icmp .eq 19, 3) := by decide +kernel
theorem dL_isRefused_346 : decode cL_isRefused 346 = .ok (.aload_n 0, 1) := by decide +kernel
theorem dL_isRefused_347 : decode cL_isRefused 347 = .ok (.iload 12, 2) := by decide +kernel
theorem dL_isRefused_349 : decode cL_isRefused 349 = .ok (.iconst 3, 1) := by decide +kernel
theorem dL_isRefused_350 : decode cL_isRefused 350 = .ok (.iload 6, 2) := by decide +kernel
theorem dL_isRefused_352 : decode cL_isRefused 352 = .ok (.iconst 0, 1) := by decide +kernel
theorem dL_isRefused_353 : decode cL_isRefused 353 = .ok (.iconst 0, 1) := by decide +kernel
theorem dL_isRefused_354 : decode cL_isRefused 354 = .ok (.invokestatic 123, 3) := by decide +kernel
theorem dL_isRefused_357 : decode cL_isRefused 357 = .ok (.ldc 41, 2) := by decide +kernel
theorem dL_isRefused_359 : decode cL_isRefused 359 = .ok (.if_icmp .ne 7, 3) := by decide +kernel
theorem dL_isRefused_362 : decode cL_isRefused 362 = .ok (.iconst 1, 1) := by decide +kernel
theorem dL_isRefused_363 : decode cL_isRefused 363 = .ok (.goto 4, 3) := by decide +kernel
theorem dL_isRefused_366 : decode cL_isRefused 366 = .ok (.iconst 0, 1) := by decide +kernel
theorem dL_isRefused_367 : decode cL_isRefused 367 = .ok (.istore 11, 2) := by decide +kernel
theorem dL_isRefused_369 : decode cL_isRefused 369 = .ok (.iinc 12 1, 3) := by decide +kernel
theorem dL_isRefused_372 : decode cL_isRefused 372 = .ok (.goto (-60), 3) := by decide +kernel
theorem dL_isRefused_375 : decode cL_isRefused 375 = .ok (.iconst 0, 1) := by decide +kernel
theorem dL_isRefused_376 : decode cL_isRefused 376 = .ok (.istore 12, 2) := by decide +kernel
theorem dL_isRefused_378 : decode cL_isRefused 378 = .ok (.iload 12, 2) := by decide +kernel
theorem dL_isRefused_380 : decode cL_isRefused 380 = .ok (.bipush 7, 2) := by decide +kernel
theorem dL_isRefused_382 : decode cL_isRefused 382 = .ok (.if_icmp .ge 61, 3) := by decide +kernel
theorem dL_isRefused_385 : decode cL_isRefused 385 = .ok (.iload 11, 2) := by decide +kernel
theorem dL_isRefused_387 : decode cL_isRefused 387 = .ok (.ifCond .eq 56, 3) := by decide +kernel
theorem dL_isRefused_390 : decode cL_isRefused 390 = .ok (.aload_n 0, 1) := by decide +kernel
theorem dL_isRefused_391 : decode cL_isRefused 391 = .ok (.iload 12, 2) := by decide +kernel
theorem dL_isRefused_393 : decode cL_isRefused 393 = .ok (.iload 7, 2) := by decide +kernel
theorem dL_isRefused_395 : decode cL_isRefused 395 = .ok (.iconst 0, 1) := by decide +kernel
theorem dL_isRefused_396 : decode cL_isRefused 396 = .ok (.invokestatic 115, 3) := by decide +kernel
theorem dL_isRefused_399 : decode cL_isRefused 399 = .ok (.ldc 51, 2) := by decide +kernel
theorem dL_isRefused_401 : decode cL_isRefused 401 = .ok (.if_icmp .ne 33, 3) := by decide +kernel
theorem dL_isRefused_404 : decode cL_isRefused 404 = .ok (.iload 12, 2) := by decide +kernel
theorem dL_isRefused_406 : decode cL_isRefused 406 = .ok (.iconst 2, 1) := by decide +kernel
theorem dL_isRefused_407 : decode cL_isRefused 407 = .ok (.if_icmp .gt 23, 3) := by decide +kernel
theorem dL_isRefused_410 : decode cL_isRefused 410 = .ok (.aload_n 0, 1) := by decide +kernel
theorem dL_isRefused_411 : decode cL_isRefused 411 = .ok (.iload 12, 2) := by decide +kernel
theorem dL_isRefused_413 : decode cL_isRefused 413 = .ok (.iload 7, 2) := by decide +kernel
theorem dL_isRefused_415 : decode cL_isRefused 415 = .ok (.iconst 0, 1) := by decide +kernel
theorem dL_isRefused_416 : decode cL_isRefused 416 = .ok (.iload 8, 2) := by decide +kernel
theorem dL_isRefused_418 : decode cL_isRefused 418 = .ok (.iload 6, 2) := by decide +kernel
theorem dL_isRefused_420 : decode cL_isRefused 420 = .ok (.iload 5, 2) := by decide +kernel
theorem dL_isRefused_422 : decode cL_isRefused 422 = .ok (.invokestatic 128, 3) := by decide +kernel
theorem dL_isRefused_425 : decode cL_isRefused 425 = .ok (.ldc 51, 2) := by decide +kernel
theorem dL_isRefused_427 : decode cL_isRefused 427 = .ok (.if_icmp .ne 7, 3) := by decide +kernel
theorem dL_isRefused_430 : decode cL_isRefused 430 = .ok (.iconst 1, 1) := by decide +kernel
theorem dL_isRefused_431 : decode cL_isRefused 431 = .ok (.goto 4, 3) := by decide +kernel
theorem dL_isRefused_434 : decode cL_isRefused 434 = .ok (.iconst 0, 1) := by decide +kernel
theorem dL_isRefused_435 : decode cL_isRefused 435 = .ok (.istore 11, 2) := by decide +kernel
theorem dL_isRefused_437 : decode cL_isRefused 437 = .ok (.iinc 12 1, 3) := by decide +kernel
theorem dL_isRefused_440 : decode cL_isRefused 440 = .ok (.goto (-62), 3) := by decide +kernel
theorem dL_isRefused_443 : decode cL_isRefused 443 = .ok (.iload 11, 2) := by decide +kernel
theorem dL_isRefused_445 : decode cL_isRefused 445 = .ok (.ifCond .eq 56, 3) := by decide +kernel
theorem dL_isRefused_448 : decode cL_isRefused 448 = .ok (.aload_n 0, 1) := by decide +kernel
theorem dL_isRefused_449 : decode cL_isRefused 449 = .ok (.iload 7, 2) := by decide +kernel
theorem dL_isRefused_451 : decode cL_isRefused 451 = .ok (.iload 5, 2) := by decide +kernel
theorem dL_isRefused_453 : decode cL_isRefused 453 = .ok (.iload 8, 2) := by decide +kernel
theorem dL_isRefused_455 : decode cL_isRefused 455 = .ok (.invokestatic 132, 3) := by decide +kernel
theorem dL_isRefused_458 : decode cL_isRefused 458 = .ok (.ldc 51, 2) := by decide +kernel
theorem dL_isRefused_460 : decode cL_isRefused 460 = .ok (.if_icmp .ne 41, 3) := by decide +kernel
theorem dL_isRefused_463 : decode cL_isRefused 463 = .ok (.aload_n 0, 1) := by decide +kernel
theorem dL_isRefused_464 : decode cL_isRefused 464 = .ok (.iload 7, 2) := by decide +kernel
theorem dL_isRefused_466 : decode cL_isRefused 466 = .ok (.invokestatic 134, 3) := by decide +kernel
theorem dL_isRefused_469 : decode cL_isRefused 469 = .ok (.ldc 51, 2) := by decide +kernel
theorem dL_isRefused_471 : decode cL_isRefused 471 = .ok (.if_icmp .ne 30, 3) := by decide +kernel
theorem dL_isRefused_474 : decode cL_isRefused 474 = .ok (.aload_n 0, 1) := by decide +kernel
theorem dL_isRefused_475 : decode cL_isRefused 475 = .ok (.invokevirtual 98, 3) := by decide +kernel
theorem dL_isRefused_478 : decode cL_isRefused 478 = .ok (.bipush 40, 2) := by decide +kernel
theorem dL_isRefused_480 : decode cL_isRefused 480 = .ok (.if_icmp .lt 17, 3) := by decide +kernel
theorem dL_isRefused_483 : decode cL_isRefused 483 = .ok (.aload_n 0, 1) := by decide +kernel
theorem dL_isRefused_484 : decode cL_isRefused 484 = .ok (.iconst 2, 1) := by decide +kernel
theorem dL_isRefused_485 : decode cL_isRefused 485 = .ok (.iconst 0, 1) := by decide +kernel
theorem dL_isRefused_486 : decode cL_isRefused 486 = .ok (.iconst 0, 1) := by decide +kernel
theorem dL_isRefused_487 : decode cL_isRefused 487 = .ok (.iconst 0, 1) := by decide +kernel
theorem dL_isRefused_488 : decode cL_isRefused 488 = .ok (.iconst 0, 1) := by decide +kernel
theorem dL_isRefused_489 : decode cL_isRefused 489 = .ok (.invokestatic 123, 3) := by decide +kernel
theorem dL_isRefused_492 : decode cL_isRefused 492 = .ok (.ldc 44, 2) := by decide +kernel
theorem dL_isRefused_494 : decode cL_isRefused 494 = .ok (.if_icmp .ne 7, 3) := by decide +kernel
theorem dL_isRefused_497 : decode cL_isRefused 497 = .ok (.iconst 1, 1) := by decide +kernel
theorem dL_isRefused_498 : decode cL_isRefused 498 = .ok (.goto 4, 3) := by decide +kernel
theorem dL_isRefused_501 : decode cL_isRefused 501 = .ok (.iconst 0, 1) := by decide +kernel
theorem dL_isRefused_502 : decode cL_isRefused 502 = .ok (.istore 11, 2) := by decide +kernel
theorem dL_isRefused_504 : decode cL_isRefused 504 = .ok (.iconst 0, 1) := by decide +kernel
theorem dL_isRefused_505 : decode cL_isRefused 505 = .ok (.istore 12, 2) := by decide +kernel
theorem dL_isRefused_507 : decode cL_isRefused 507 = .ok (.iload 12, 2) := by decide +kernel
theorem dL_isRefused_509 : decode cL_isRefused 509 = .ok (.aload_n 0, 1) := by decide +kernel
theorem dL_isRefused_510 : decode cL_isRefused 510 = .ok (.invokevirtual 98, 3) := by decide +kernel
theorem dL_isRefused_513 : decode cL_isRefused 513 = .ok (.if_icmp .ge 287, 3) := by decide +kernel
theorem dL_isRefused_516 : decode cL_isRefused 516 = .ok (.iload 11, 2) := by decide +kernel
theorem dL_isRefused_518 : decode cL_isRefused 518 = .ok (.ifCond .eq 282, 3) := by decide +kernel
theorem dL_isRefused_521 : decode cL_isRefused 521 = .ok (.aload_n 0, 1) := by decide +kernel
theorem dL_isRefused_522 : decode cL_isRefused 522 = .ok (.iload 12, 2) := by decide +kernel
theorem dL_isRefused_524 : decode cL_isRefused 524 = .ok (.iload 5, 2) := by decide +kernel
theorem dL_isRefused_526 : decode cL_isRefused 526 = .ok (.iconst 1, 1) := by decide +kernel
theorem dL_isRefused_527 : decode cL_isRefused 527 = .ok (.invokestatic 132, 3) := by decide +kernel
theorem dL_isRefused_530 : decode cL_isRefused 530 = .ok (.ldc 41, 2) := by decide +kernel
theorem dL_isRefused_532 : decode cL_isRefused 532 = .ok (.if_icmp .ne 75, 3) := by decide +kernel
theorem dL_isRefused_535 : decode cL_isRefused 535 = .ok (.aload_n 0, 1) := by decide +kernel
theorem dL_isRefused_536 : decode cL_isRefused 536 = .ok (.iload 12, 2) := by decide +kernel
theorem dL_isRefused_538 : decode cL_isRefused 538 = .ok (.iconst 0, 1) := by decide +kernel
theorem dL_isRefused_539 : decode cL_isRefused 539 = .ok (.iload 8, 2) := by decide +kernel
theorem dL_isRefused_541 : decode cL_isRefused 541 = .ok (.invokestatic 132, 3) := by decide +kernel
theorem dL_isRefused_544 : decode cL_isRefused 544 = .ok (.ldc 41, 2) := by decide +kernel
theorem dL_isRefused_546 : decode cL_isRefused 546 = .ok (.if_icmp .ne 61, 3) := by decide +kernel
theorem dL_isRefused_549 : decode cL_isRefused 549 = .ok (.aload_n 2, 1) := by decide +kernel
theorem dL_isRefused_550 : decode cL_isRefused 550 = .ok (.iload 12, 2) := by decide +kernel
theorem dL_isRefused_552 : decode cL_isRefused 552 = .ok (.iaload, 1) := by decide +kernel
theorem dL_isRefused_553 : decode cL_isRefused 553 = .ok (.ifCond .ge 12, 3) := by decide +kernel
theorem dL_isRefused_556 : decode cL_isRefused 556 = .ok (.aload_n 3, 1) := by decide +kernel
theorem dL_isRefused_557 : decode cL_isRefused 557 = .ok (.iload 12, 2) := by decide +kernel
theorem dL_isRefused_559 : decode cL_isRefused 559 = .ok (.iaload, 1) := by decide +kernel
theorem dL_isRefused_560 : decode cL_isRefused 560 = .ok (.bipush 6, 2) := by decide +kernel
theorem dL_isRefused_562 : decode cL_isRefused 562 = .ok (.if_icmp .lt 16, 3) := by decide +kernel
theorem dL_isRefused_565 : decode cL_isRefused 565 = .ok (.aload_n 0, 1) := by decide +kernel
theorem dL_isRefused_566 : decode cL_isRefused 566 = .ok (.iload 12, 2) := by decide +kernel
theorem dL_isRefused_568 : decode cL_isRefused 568 = .ok (.iconst 0, 1) := by decide +kernel
theorem dL_isRefused_569 : decode cL_isRefused 569 = .ok (.iconst 1, 1) := by decide +kernel
theorem dL_isRefused_570 : decode cL_isRefused 570 = .ok (.invokestatic 132, 3) := by decide +kernel
theorem dL_isRefused_573 : decode cL_isRefused 573 = .ok (.ldc 44, 2) := by decide +kernel
theorem dL_isRefused_575 : decode cL_isRefused 575 = .ok (.if_icmp .ne 32, 3) := by decide +kernel
theorem dL_isRefused_578 : decode cL_isRefused 578 = .ok (.aload_n 2, 1) := by decide +kernel
theorem dL_isRefused_579 : decode cL_isRefused 579 = .ok (.iload 12, 2) := by decide +kernel
theorem dL_isRefused_581 : decode cL_isRefused 581 = .ok (.iaload, 1) := by decide +kernel
theorem dL_isRefused_582 : decode cL_isRefused 582 = .ok (.ifCond .ge 10, 3) := by decide +kernel
theorem dL_isRefused_585 : decode cL_isRefused 585 = .ok (.aload_n 3, 1) := by decide +kernel
theorem dL_isRefused_586 : decode cL_isRefused 586 = .ok (.iload 12, 2) := by decide +kernel
theorem dL_isRefused_588 : decode cL_isRefused 588 = .ok (.iaload, 1) := by decide +kernel
theorem dL_isRefused_589 : decode cL_isRefused 589 = .ok (.ifCond .gt 14, 3) := by decide +kernel
theorem dL_isRefused_592 : decode cL_isRefused 592 = .ok (.aload_n 0, 1) := by decide +kernel
theorem dL_isRefused_593 : decode cL_isRefused 593 = .ok (.iload 12, 2) := by decide +kernel
theorem dL_isRefused_595 : decode cL_isRefused 595 = .ok (.invokestatic 134, 3) := by decide +kernel
theorem dL_isRefused_598 : decode cL_isRefused 598 = .ok (.ldc 44, 2) := by decide +kernel
theorem dL_isRefused_600 : decode cL_isRefused 600 = .ok (.if_icmp .ne 7, 3) := by decide +kernel
theorem dL_isRefused_603 : decode cL_isRefused 603 = .ok (.iconst 1, 1) := by decide +kernel
theorem dL_isRefused_604 : decode cL_isRefused 604 = .ok (.goto 4, 3) := by decide +kernel
theorem dL_isRefused_607 : decode cL_isRefused 607 = .ok (.iconst 0, 1) := by decide +kernel
theorem dL_isRefused_608 : decode cL_isRefused 608 = .ok (.istore 11, 2) := by decide +kernel
theorem dL_isRefused_610 : decode cL_isRefused 610 = .ok (.iconst 0, 1) := by decide +kernel
theorem dL_isRefused_611 : decode cL_isRefused 611 = .ok (.istore 13, 2) := by decide +kernel
theorem dL_isRefused_613 : decode cL_isRefused 613 = .ok (.iload 13, 2) := by decide +kernel
theorem dL_isRefused_615 : decode cL_isRefused 615 = .ok (.iconst 3, 1) := by decide +kernel
theorem dL_isRefused_616 : decode cL_isRefused 616 = .ok (.if_icmp .ge 178, 3) := by decide +kernel
theorem dL_isRefused_619 : decode cL_isRefused 619 = .ok (.iload 11, 2) := by decide +kernel
theorem dL_isRefused_621 : decode cL_isRefused 621 = .ok (.ifCond .eq 173, 3) := by decide +kernel
theorem dL_isRefused_624 : decode cL_isRefused 624 = .ok (.aload_n 3, 1) := by decide +kernel
theorem dL_isRefused_625 : decode cL_isRefused 625 = .ok (.iload 12, 2) := by decide +kernel
theorem dL_isRefused_627 : decode cL_isRefused 627 = .ok (.iaload, 1) := by decide +kernel
theorem dL_isRefused_628 : decode cL_isRefused 628 = .ok (.ifCond .le 166, 3) := by decide +kernel
theorem dL_isRefused_631 : decode cL_isRefused 631 = .ok (.aload_n 0, 1) := by decide +kernel
theorem dL_isRefused_632 : decode cL_isRefused 632 = .ok (.iload 13, 2) := by decide +kernel
theorem dL_isRefused_634 : decode cL_isRefused 634 = .ok (.iload 12, 2) := by decide +kernel
theorem dL_isRefused_636 : decode cL_isRefused 636 = .ok (.iload 4, 2) := by decide +kernel
theorem dL_isRefused_638 : decode cL_isRefused 638 = .ok (.ifCond .eq 7, 3) := by decide +kernel
theorem dL_isRefused_641 : decode cL_isRefused 641 = .ok (.iconst (-1), 1) := by decide +kernel
theorem dL_isRefused_642 : decode cL_isRefused 642 = .ok (.goto 7, 3) := by decide +kernel
theorem dL_isRefused_645 : decode cL_isRefused 645 = .ok (.aload_n 3, 1) := by decide +kernel
theorem dL_isRefused_646 : decode cL_isRefused 646 = .ok (.iload 12, 2) := by decide +kernel
theorem dL_isRefused_648 : decode cL_isRefused 648 = .ok (.iaload, 1) := by decide +kernel
theorem dL_isRefused_649 : decode cL_isRefused 649 = .ok (.iload 8, 2) := by decide +kernel
theorem dL_isRefused_651 : decode cL_isRefused 651 = .ok (.iconst 0, 1) := by decide +kernel
theorem dL_isRefused_652 : decode cL_isRefused 652 = .ok (.iconst 0, 1) := by decide +kernel
theorem dL_isRefused_653 : decode cL_isRefused 653 = .ok (.invokestatic 128, 3) := by decide +kernel
theorem dL_isRefused_656 : decode cL_isRefused 656 = .ok (.ldc 51, 2) := by decide +kernel
theorem dL_isRefused_658 : decode cL_isRefused 658 = .ok (.if_icmp .ne 127, 3) := by decide +kernel
theorem dL_isRefused_661 : decode cL_isRefused 661 = .ok (.aload_n 0, 1) := by decide +kernel
theorem dL_isRefused_662 : decode cL_isRefused 662 = .ok (.iload 13, 2) := by decide +kernel
theorem dL_isRefused_664 : decode cL_isRefused 664 = .ok (.iload 12, 2) := by decide +kernel
theorem dL_isRefused_666 : decode cL_isRefused 666 = .ok (.iconst 0, 1) := by decide +kernel
theorem dL_isRefused_667 : decode cL_isRefused 667 = .ok (.iload 8, 2) := by decide +kernel
theorem dL_isRefused_669 : decode cL_isRefused 669 = .ok (.iconst 0, 1) := by decide +kernel
theorem dL_isRefused_670 : decode cL_isRefused 670 = .ok (.iconst 0, 1) := by decide +kernel
theorem dL_isRefused_671 : decode cL_isRefused 671 = .ok (.invokestatic 128, 3) := by decide +kernel
theorem dL_isRefused_674 : decode cL_isRefused 674 = .ok (.ldc 41, 2) := by decide +kernel
theorem dL_isRefused_676 : decode cL_isRefused 676 = .ok (.if_icmp .ne 109, 3) := by decide +kernel
theorem dL_isRefused_679 : decode cL_isRefused 679 = .ok (.aload_n 0, 1) := by decide +kernel
theorem dL_isRefused_680 : decode cL_isRefused 680 = .ok (.iload 13, 2) := by decide +kernel
theorem dL_isRefused_682 : decode cL_isRefused 682 = .ok (.iload 12, 2) := by decide +kernel
theorem dL_isRefused_684 : decode cL_isRefused 684 = .ok (.iconst 0, 1) := by decide +kernel
theorem dL_isRefused_685 : decode cL_isRefused 685 = .ok (.iconst 1, 1) := by decide +kernel
theorem dL_isRefused_686 : decode cL_isRefused 686 = .ok (.iload 6, 2) := by decide +kernel
theorem dL_isRefused_688 : decode cL_isRefused 688 = .ok (.iconst 0, 1) := by decide +kernel
theorem dL_isRefused_689 : decode cL_isRefused 689 = .ok (.invokestatic 128, 3) := by decide +kernel
theorem dL_isRefused_692 : decode cL_isRefused 692 = .ok (.ldc 41, 2) := by decide +kernel
theorem dL_isRefused_694 : decode cL_isRefused 694 = .ok (.if_icmp .ne 91, 3) := by decide +kernel
theorem dL_isRefused_697 : decode cL_isRefused 697 = .ok (.iload 13, 2) := by decide +kernel
theorem dL_isRefused_699 : decode cL_isRefused 699 = .ok (.iconst 1, 1) := by decide +kernel
theorem dL_isRefused_700 : decode cL_isRefused 700 = .ok (.if_icmp .ne 20, 3) := by decide +kernel
theorem dL_isRefused_703 : decode cL_isRefused 703 = .ok (.aload_n 0, 1) := by decide +kernel
theorem dL_isRefused_704 : decode cL_isRefused 704 = .ok (.iconst 1, 1) := by decide +kernel
theorem dL_isRefused_705 : decode cL_isRefused 705 = .ok (.iload 12, 2) := by decide +kernel
theorem dL_isRefused_707 : decode cL_isRefused 707 = .ok (.iconst 0, 1) := by decide +kernel
theorem dL_isRefused_708 : decode cL_isRefused 708 = .ok (.iconst 1, 1) := by decide +kernel
theorem dL_isRefused_709 : decode cL_isRefused 709 = .ok (.iconst 0, 1) := by decide +kernel
theorem dL_isRefused_710 : decode cL_isRefused 710 = .ok (.iload 5, 2) := by decide +kernel
theorem dL_isRefused_712 : decode cL_isRefused 712 = .ok (.invokestatic 128, 3) := by decide +kernel
theorem dL_isRefused_715 : decode cL_isRefused 715 = .ok (.ldc 41, 2) := by decide +kernel
theorem dL_isRefused_717 : decode cL_isRefused 717 = .ok (.if_icmp .ne 68, 3) := by decide +kernel
theorem dL_isRefused_720 : decode cL_isRefused 720 = .ok (.aload_n 2, 1) := by decide +kernel
theorem dL_isRefused_721 : decode cL_isRefused 721 = .ok (.iload 12, 2) := by decide +kernel
theorem dL_isRefused_723 : decode cL_isRefused 723 = .ok (.iaload, 1) := by decide +kernel
theorem dL_isRefused_724 : decode cL_isRefused 724 = .ok (.ifCond .ge 20, 3) := by decide +kernel
theorem dL_isRefused_727 : decode cL_isRefused 727 = .ok (.aload_n 0, 1) := by decide +kernel
theorem dL_isRefused_728 : decode cL_isRefused 728 = .ok (.iload 13, 2) := by decide +kernel
theorem dL_isRefused_730 : decode cL_isRefused 730 = .ok (.iload 12, 2) := by decide +kernel
theorem dL_isRefused_732 : decode cL_isRefused 732 = .ok (.iconst 0, 1) := by decide +kernel
theorem dL_isRefused_733 : decode cL_isRefused 733 = .ok (.iconst 1, 1) := by decide +kernel
theorem dL_isRefused_734 : decode cL_isRefused 734 = .ok (.iconst 0, 1) := by decide +kernel
theorem dL_isRefused_735 : decode cL_isRefused 735 = .ok (.iconst 0, 1) := by decide +kernel
theorem dL_isRefused_736 : decode cL_isRefused 736 = .ok (.invokestatic 128, 3) := by decide +kernel
theorem dL_isRefused_739 : decode cL_isRefused 739 = .ok (.ldc 44, 2) := by decide +kernel
theorem dL_isRefused_741 : decode cL_isRefused 741 = .ok (.if_icmp .ne 44, 3) := by decide +kernel
theorem dL_isRefused_744 : decode cL_isRefused 744 = .ok (.aload_n 0, 1) := by decide +kernel
theorem dL_isRefused_745 : decode cL_isRefused 745 = .ok (.iload 12, 2) := by decide +kernel
theorem dL_isRefused_747 : decode cL_isRefused 747 = .ok (.iconst 0, 1) := by decide +kernel
theorem dL_isRefused_748 : decode cL_isRefused 748 = .ok (.invokevirtual 70, 3) := by decide +kernel
theorem dL_isRefused_751 : decode cL_isRefused 751 = .ok (.bipush 20, 2) := by decide +kernel
theorem dL_isRefused_753 : decode cL_isRefused 753 = .ok (.if_icmp .eq 28, 3) := by decide +kernel
theorem dL_isRefused_756 : decode cL_isRefused 756 = .ok (.aload_n 0, 1) := by decide +kernel
theorem dL_isRefused_757 : decode cL_isRefused 757 = .ok (.iload 13, 2) := by decide +kernel
theorem dL_isRefused_759 : decode cL_isRefused 759 = .ok (.iload 12, 2) := by decide +kernel
theorem dL_isRefused_761 : decode cL_isRefused 761 = .ok (.iconst 0, 1) := by decide +kernel
theorem dL_isRefused_762 : decode cL_isRefused 762 = .ok (.aload_n 0, 1) := by decide +kernel
theorem dL_isRefused_763 : decode cL_isRefused 763 = .ok (.iload 12, 2) := by decide +kernel
theorem dL_isRefused_765 : decode cL_isRefused 765 = .ok (.iconst 0, 1) := by decide +kernel
theorem dL_isRefused_766 : decode cL_isRefused 766 = .ok (.invokevirtual 70, 3) := by decide +kernel
theorem dL_isRefused_769 : decode cL_isRefused 769 = .ok (.iconst 1, 1) := by decide +kernel
theorem dL_isRefused_770 : decode cL_isRefused 770 = .ok (.iadd, 1) := by decide +kernel
theorem dL_isRefused_771 : decode cL_isRefused 771 = .ok (.iconst 0, 1) := by decide +kernel
theorem dL_isRefused_772 : decode cL_isRefused 772 = .ok (.iconst 0, 1) := by decide +kernel
theorem dL_isRefused_773 : decode cL_isRefused 773 = .ok (.invokestatic 128, 3) := by decide +kernel
theorem dL_isRefused_776 : decode cL_isRefused 776 = .ok (.ldc 44, 2) := by decide +kernel
theorem dL_isRefused_778 : decode cL_isRefused 778 = .ok (.if_icmp .ne 7, 3) := by decide +kernel
theorem dL_isRefused_781 : decode cL_isRefused 781 = .ok (.iconst 1, 1) := by decide +kernel
theorem dL_isRefused_782 : decode cL_isRefused 782 = .ok (.goto 4, 3) := by decide +kernel
theorem dL_isRefused_785 : decode cL_isRefused 785 = .ok (.iconst 0, 1) := by decide +kernel
theorem dL_isRefused_786 : decode cL_isRefused 786 = .ok (.istore 11, 2) := by decide +kernel
theorem dL_isRefused_788 : decode cL_isRefused 788 = .ok (.iinc 13 1, 3) := by decide +kernel
theorem dL_isRefused_791 : decode cL_isRefused 791 = .ok (.goto (-178), 3) := by decide +kernel
theorem dL_isRefused_794 : decode cL_isRefused 794 = .ok (.iinc 12 1, 3) := by decide +kernel
theorem dL_isRefused_797 : decode cL_isRefused 797 = .ok (.goto (-290), 3) := by decide +kernel
theorem dL_isRefused_800 : decode cL_isRefused 800 = .ok (.iload 11, 2) := by decide +kernel
theorem dL_isRefused_802 : decode cL_isRefused 802 = .ok (.ifCond .eq 18, 3) := by decide +kernel
theorem dL_isRefused_805 : decode cL_isRefused 805 = .ok (.aload_n 0, 1) := by decide +kernel
theorem dL_isRefused_806 : decode cL_isRefused 806 = .ok (.aload_n 3, 1) := by decide +kernel
theorem dL_isRefused_807 : decode cL_isRefused 807 = .ok (.invokestatic 119, 3) := by decide +kernel
theorem dL_isRefused_810 : decode cL_isRefused 810 = .ok (.lload 9, 2) := by decide +kernel
theorem dL_isRefused_812 : decode cL_isRefused 812 = .ok (.lcmp, 1) := by decide +kernel
theorem dL_isRefused_813 : decode cL_isRefused 813 = .ok (.ifCond .ne 7, 3) := by decide +kernel
theorem dL_isRefused_816 : decode cL_isRefused 816 = .ok (.iconst 1, 1) := by decide +kernel
theorem dL_isRefused_817 : decode cL_isRefused 817 = .ok (.goto 4, 3) := by decide +kernel
theorem dL_isRefused_820 : decode cL_isRefused 820 = .ok (.iconst 0, 1) := by decide +kernel
theorem dL_isRefused_821 : decode cL_isRefused 821 = .ok (.ireturn, 1) := by decide +kernel
