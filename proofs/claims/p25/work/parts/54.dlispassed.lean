set_option maxRecDepth 20000 in
theorem ggL_isPassed_X4_fees : GoodIn wsL_isPassed wsX4_fees := goodIn_r _ [9, 10, 251, 252, 253, 254, 255, 256] (by decide +kernel) (by decide +kernel)
set_option maxRecDepth 20000 in
theorem gL_isPassed_X4_fees : GoodIn wsL_isPassed (wsV RL 102 RX4 yX4_fees wsX4_fees) := goodIn_app (goodIn_of _ (by decide +kernel)) ggL_isPassed_X4_fees
set_option maxRecDepth 20000 in
theorem ggL_isPassed_L_stock : GoodIn wsL_isPassed wsL_stock := goodIn_ca (goodIn_r _ [14, 15, 16, 17, 8, 18, 19, 20, 21, 22, 23, 24, 25, 26, 27, 28, 29, 30, 31, 251, 252, 253, 254, 255, 256, 257, 258, 259, 260] (by decide +kernel) (by decide +kernel)) (goodIn_sub (fun _ h => List.mem_cons_of_mem _ (List.mem_append_left _ (List.mem_append_left _ (List.mem_append_right _ h)))) (by decide +kernel))
set_option maxRecDepth 20000 in
theorem gL_isPassed_L_stock : GoodIn wsL_isPassed (va_wsS RL 137 yL_stock wsL_stock) := goodIn_app (goodIn_of _ (by decide +kernel)) ggL_isPassed_L_stock
set_option maxRecDepth 20000 in
theorem ggL_isPassed_X4_score : GoodIn wsL_isPassed wsX4_score := goodIn_ca (goodIn_r _ [35, 19, 20, 36, 37, 38, 39, 8, 40, 41, 42, 43, 44, 45, 46, 47, 48, 49, 50, 251, 252, 253, 254, 255, 256, 261, 262, 263, 264] (by decide +kernel) (by decide +kernel)) (goodIn_sub (fun _ h => List.mem_cons_of_mem _ (List.mem_append_left _ (List.mem_append_left _ (List.mem_append_right _ h)))) (by decide +kernel))
set_option maxRecDepth 20000 in
theorem gL_isPassed_X4_score : GoodIn wsL_isPassed (wsV RL 36 RX4 yX4_score wsX4_score) := goodIn_app (goodIn_of _ (by decide +kernel)) ggL_isPassed_X4_score
set_option maxRecDepth 20000 in
theorem ggL_isPassed_X4_sales : GoodIn wsL_isPassed wsX4_sales := goodIn_r _ [54, 55, 251, 252, 253, 254, 255, 256] (by decide +kernel) (by decide +kernel)
set_option maxRecDepth 20000 in
theorem gL_isPassed_X4_sales : GoodIn wsL_isPassed (wsV RL 98 RX4 yX4_sales wsX4_sales) := goodIn_app (goodIn_of _ (by decide +kernel)) ggL_isPassed_X4_sales
set_option maxRecDepth 20000 in
theorem ggL_isPassed_L_sale : GoodIn wsL_isPassed wsL_sale := goodIn_ca (goodIn_r _ [58, 1, 59, 60, 61, 62, 63, 64, 65, 66, 8, 67, 68, 69, 70, 71, 72, 73, 74, 75, 76, 77, 78, 79, 80, 81, 82, 83, 84, 85, 86, 87, 88, 89, 90, 91, 92, 93, 94, 95, 96, 97, 98, 99, 100, 101, 102, 103, 104, 105, 106, 107, 108, 109, 110, 111, 112, 113, 114, 115, 116, 117, 118, 119, 120, 121, 122, 123, 124, 125, 126, 127, 128, 129, 130, 131, 132, 133, 134, 135, 136, 137, 138, 139, 140, 141, 142, 143, 144, 145, 146, 147, 148, 149, 150, 151, 152, 153, 265, 266, 267, 268, 269, 270, 271, 272, 273, 251, 252, 253, 254, 255, 256, 274, 275, 276, 277] (by decide +kernel) (by decide +kernel)) (goodIn_sub (fun _ h => List.mem_cons_of_mem _ (List.mem_append_left _ (List.mem_append_right _ h))) (by decide +kernel))
set_option maxRecDepth 20000 in
theorem gL_isPassed_L_sale : GoodIn wsL_isPassed (va_wsS RL 107 yL_sale wsL_sale) := goodIn_app (goodIn_of _ (by decide +kernel)) ggL_isPassed_L_sale
set_option maxRecDepth 20000 in
theorem ggL_isPassed_L_desk : GoodIn wsL_isPassed wsL_desk := goodIn_ca (goodIn_ca (goodIn_r _ [156, 157, 158, 159, 4, 160, 161, 162, 8, 163, 19, 20, 164, 165, 166, 167, 21, 22, 23, 24, 25, 168, 169, 170, 171, 172, 173, 174, 175, 176, 36, 177, 178, 179, 180, 181, 182, 87, 55, 37, 38, 39, 40, 41, 183, 184, 185, 186, 79, 187, 188, 189, 190, 191, 192, 193, 89, 194, 195, 196, 197, 198, 199, 200, 201, 202, 203, 204, 205, 206, 207, 208, 209, 210, 29, 211, 212, 213, 214, 215, 216, 217, 218, 219, 220, 221, 222, 223, 224, 225, 226, 227, 228, 229, 230, 231, 232, 233, 234, 235, 236, 237, 238, 239, 240, 241, 242, 15, 16, 17, 18, 26, 27, 28, 30, 31, 243, 244, 245, 246, 247, 248, 249, 250, 32, 33, 34, 35, 42, 43, 44, 45, 46, 47, 48, 49, 50, 257, 258, 259, 260, 251, 252, 253, 254, 255, 256, 265, 266, 267, 268, 269, 270, 271, 272, 273, 261, 262, 263, 264] (by decide +kernel) (by decide +kernel)) (goodIn_sub (fun _ h => List.mem_cons_of_mem _ (List.mem_append_left _ (List.mem_append_left _ (List.mem_append_right _ h)))) (by decide +kernel))) (goodIn_sub (fun _ h => List.mem_cons_of_mem _ (List.mem_append_right _ h)) (by decide +kernel))
set_option maxRecDepth 20000 in
theorem gL_isPassed_L_desk : GoodIn wsL_isPassed (va_wsS RL 123 yL_desk wsL_desk) := goodIn_app (goodIn_of _ (by decide +kernel)) ggL_isPassed_L_desk
theorem dL_isPassed_0 : decode cL_isPassed 0 = .ok (.ldc2_w 86, 3) := by decide +kernel
theorem dL_isPassed_3 : decode cL_isPassed 3 = .ok (.aload_n 0, 1) := by decide +kernel
theorem dL_isPassed_4 : decode cL_isPassed 4 = .ok (.invokevirtual 102, 3) := by decide +kernel
theorem dL_isPassed_7 : decode cL_isPassed 7 = .ok (.i2l, 1) := by decide +kernel
theorem dL_isPassed_8 : decode cL_isPassed 8 = .ok (.lmul, 1) := by decide +kernel
theorem dL_isPassed_9 : decode cL_isPassed 9 = .ok (.aload_n 0, 1) := by decide +kernel
theorem dL_isPassed_10 : decode cL_isPassed 10 = .ok (.invokestatic 137, 3) := by decide +kernel
theorem dL_isPassed_13 : decode cL_isPassed 13 = .ok (.i2l, 1) := by decide +kernel
theorem dL_isPassed_14 : decode cL_isPassed 14 = .ok (.ladd, 1) := by decide +kernel
theorem dL_isPassed_15 : decode cL_isPassed 15 = .ok (.lstore 4, 2) := by decide +kernel
theorem dL_isPassed_17 : decode cL_isPassed 17 = .ok (.iconst 0, 1) := by decide +kernel
theorem dL_isPassed_18 : decode cL_isPassed 18 = .ok (.istore 6, 2) := by decide +kernel
theorem dL_isPassed_20 : decode cL_isPassed 20 = .ok (.iconst 0, 1) := by decide +kernel
theorem dL_isPassed_21 : decode cL_isPassed 21 = .ok (.istore 7, 2) := by decide +kernel
theorem dL_isPassed_23 : decode cL_isPassed 23 = .ok (.iconst 0, 1) := by decide +kernel
theorem dL_isPassed_24 : decode cL_isPassed 24 = .ok (.istore 8, 2) := by decide +kernel
theorem dL_isPassed_26 : decode cL_isPassed 26 = .ok (.iload 8, 2) := by decide +kernel
theorem dL_isPassed_28 : decode cL_isPassed 28 = .ok (.bipush 10, 2) := by decide +kernel
theorem dL_isPassed_30 : decode cL_isPassed 30 = .ok (.if_icmp .ge 20, 3) := by decide +kernel
theorem dL_isPassed_33 : decode cL_isPassed 33 = .ok (.iload 6, 2) := by decide +kernel
theorem dL_isPassed_35 : decode cL_isPassed 35 = .ok (.aload_n 0, 1) := by decide +kernel
theorem dL_isPassed_36 : decode cL_isPassed 36 = .ok (.iload 8, 2) := by decide +kernel
theorem dL_isPassed_38 : decode cL_isPassed 38 = .ok (.invokevirtual 36, 3) := by decide +kernel
theorem dL_isPassed_41 : decode cL_isPassed 41 = .ok (.iadd, 1) := by decide +kernel
theorem dL_isPassed_42 : decode cL_isPassed 42 = .ok (.istore 6, 2) := by decide +kernel
theorem dL_isPassed_44 : decode cL_isPassed 44 = .ok (.iinc 8 1, 3) := by decide +kernel
theorem dL_isPassed_47 : decode cL_isPassed 47 = .ok (.goto (-21), 3) := by decide +kernel
theorem dL_isPassed_50 : decode cL_isPassed 50 = .ok (.iconst 0, 1) := by decide +kernel
theorem dL_isPassed_51 : decode cL_isPassed 51 = .ok (.istore 8, 2) := by decide +kernel
theorem dL_isPassed_53 : decode cL_isPassed 53 = .ok (.iload 8, 2) := by decide +kernel
theorem dL_isPassed_55 : decode cL_isPassed 55 = .ok (.aload_n 0, 1) := by decide +kernel
theorem dL_isPassed_56 : decode cL_isPassed 56 = .ok (.invokevirtual 98, 3) := by decide +kernel
theorem dL_isPassed_59 : decode cL_isPassed 59 = .ok (.if_icmp .ge 25, 3) := by decide +kernel
theorem dL_isPassed_62 : decode cL_isPassed 62 = .ok (.ldc2_w 105, 3) := by decide +kernel
theorem dL_isPassed_65 : decode cL_isPassed 65 = .ok (.lload 4, 2) := by decide +kernel
theorem dL_isPassed_67 : decode cL_isPassed 67 = .ok (.lmul, 1) := by decide +kernel
theorem dL_isPassed_68 : decode cL_isPassed 68 = .ok (.aload_n 0, 1) := by decide +kernel
theorem dL_isPassed_69 : decode cL_isPassed 69 = .ok (.iload 8, 2) := by decide +kernel
theorem dL_isPassed_71 : decode cL_isPassed 71 = .ok (.aload_n 3, 1) := by decide +kernel
theorem dL_isPassed_72 : decode cL_isPassed 72 = .ok (.invokestatic 107, 3) := by decide +kernel
theorem dL_isPassed_75 : decode cL_isPassed 75 = .ok (.ladd, 1) := by decide +kernel
theorem dL_isPassed_76 : decode cL_isPassed 76 = .ok (.lstore 4, 2) := by decide +kernel
theorem dL_isPassed_78 : decode cL_isPassed 78 = .ok (.iinc 8 1, 3) := by decide +kernel
theorem dL_isPassed_81 : decode cL_isPassed 81 = .ok (.goto (-28), 3) := by decide +kernel
theorem dL_isPassed_84 : decode cL_isPassed 84 = .ok (.aload_n 0, 1) := by decide +kernel
theorem dL_isPassed_85 : decode cL_isPassed 85 = .ok (.iconst 1, 1) := by decide +kernel
theorem dL_isPassed_86 : decode cL_isPassed 86 = .ok (.iload_n 2, 1) := by decide +kernel
theorem dL_isPassed_87 : decode cL_isPassed 87 = .ok (.iconst 0, 1) := by decide +kernel
theorem dL_isPassed_88 : decode cL_isPassed 88 = .ok (.iconst 0, 1) := by decide +kernel
theorem dL_isPassed_89 : decode cL_isPassed 89 = .ok (.iconst 0, 1) := by decide +kernel
theorem dL_isPassed_90 : decode cL_isPassed 90 = .ok (.invokestatic 123, 3) := by decide +kernel
theorem dL_isPassed_93 : decode cL_isPassed 93 = .ok (.istore 8, 2) := by decide +kernel
theorem dL_isPassed_95 : decode cL_isPassed 95 = .ok (.aload_n 1, 1) := by decide +kernel
theorem dL_isPassed_96 : decode cL_isPassed 96 = .ok (.iconst 0, 1) := by decide +kernel
theorem dL_isPassed_97 : decode cL_isPassed 97 = .ok (.iaload, 1) := by decide +kernel
theorem dL_isPassed_98 : decode cL_isPassed 98 = .ok (.iload_n 2, 1) := by decide +kernel
theorem dL_isPassed_99 : decode cL_isPassed 99 = .ok (.iadd, 1) := by decide +kernel
theorem dL_isPassed_100 : decode cL_isPassed 100 = .ok (.ldc 148, 2) := by decide +kernel
theorem dL_isPassed_102 : decode cL_isPassed 102 = .ok (.if_icmp .le 16, 3) := by decide +kernel
theorem dL_isPassed_105 : decode cL_isPassed 105 = .ok (.iload 8, 2) := by decide +kernel
theorem dL_isPassed_107 : decode cL_isPassed 107 = .ok (.ldc 44, 2) := by decide +kernel
theorem dL_isPassed_109 : decode cL_isPassed 109 = .ok (.if_icmp .ne 7, 3) := by decide +kernel
theorem dL_isPassed_112 : decode cL_isPassed 112 = .ok (.iconst 1, 1) := by decide +kernel
theorem dL_isPassed_113 : decode cL_isPassed 113 = .ok (.goto 4, 3) := by decide +kernel
theorem dL_isPassed_116 : decode cL_isPassed 116 = .ok (.iconst 0, 1) := by decide +kernel
theorem dL_isPassed_117 : decode cL_isPassed 117 = .ok (.ireturn, 1) := by decide +kernel
theorem dL_isPassed_118 : decode cL_isPassed 118 = .ok (.aload_n 1, 1) := by decide +kernel
theorem dL_isPassed_119 : decode cL_isPassed 119 = .ok (.iconst 0, 1) := by decide +kernel
theorem dL_isPassed_120 : decode cL_isPassed 120 = .ok (.dup2, 1) := by decide +kernel
theorem dL_isPassed_121 : decode cL_isPassed 121 = .ok (.iaload, 1) := by decide +kernel
theorem dL_isPassed_122 : decode cL_isPassed 122 = .ok (.iload_n 2, 1) := by decide +kernel
theorem dL_isPassed_123 : decode cL_isPassed 123 = .ok (.iadd, 1) := by decide +kernel
theorem dL_isPassed_124 : decode cL_isPassed 124 = .ok (.iastore, 1) := by decide +kernel
theorem dL_isPassed_125 : decode cL_isPassed 125 = .ok (.ldc2_w 86, 3) := by decide +kernel
theorem dL_isPassed_128 : decode cL_isPassed 128 = .ok (.aload_n 0, 1) := by decide +kernel
theorem dL_isPassed_129 : decode cL_isPassed 129 = .ok (.invokevirtual 102, 3) := by decide +kernel
theorem dL_isPassed_132 : decode cL_isPassed 132 = .ok (.i2l, 1) := by decide +kernel
theorem dL_isPassed_133 : decode cL_isPassed 133 = .ok (.lmul, 1) := by decide +kernel
theorem dL_isPassed_134 : decode cL_isPassed 134 = .ok (.aload_n 0, 1) := by decide +kernel
theorem dL_isPassed_135 : decode cL_isPassed 135 = .ok (.invokestatic 137, 3) := by decide +kernel
theorem dL_isPassed_138 : decode cL_isPassed 138 = .ok (.i2l, 1) := by decide +kernel
theorem dL_isPassed_139 : decode cL_isPassed 139 = .ok (.ladd, 1) := by decide +kernel
theorem dL_isPassed_140 : decode cL_isPassed 140 = .ok (.lstore 9, 2) := by decide +kernel
theorem dL_isPassed_142 : decode cL_isPassed 142 = .ok (.iconst 0, 1) := by decide +kernel
theorem dL_isPassed_143 : decode cL_isPassed 143 = .ok (.istore 11, 2) := by decide +kernel
theorem dL_isPassed_145 : decode cL_isPassed 145 = .ok (.iload 11, 2) := by decide +kernel
theorem dL_isPassed_147 : decode cL_isPassed 147 = .ok (.bipush 10, 2) := by decide +kernel
theorem dL_isPassed_149 : decode cL_isPassed 149 = .ok (.if_icmp .ge 20, 3) := by decide +kernel
theorem dL_isPassed_152 : decode cL_isPassed 152 = .ok (.iload 7, 2) := by decide +kernel
theorem dL_isPassed_154 : decode cL_isPassed 154 = .ok (.aload_n 0, 1) := by decide +kernel
theorem dL_isPassed_155 : decode cL_isPassed 155 = .ok (.iload 11, 2) := by decide +kernel
theorem dL_isPassed_157 : decode cL_isPassed 157 = .ok (.invokevirtual 36, 3) := by decide +kernel
theorem dL_isPassed_160 : decode cL_isPassed 160 = .ok (.iadd, 1) := by decide +kernel
theorem dL_isPassed_161 : decode cL_isPassed 161 = .ok (.istore 7, 2) := by decide +kernel
theorem dL_isPassed_163 : decode cL_isPassed 163 = .ok (.iinc 11 1, 3) := by decide +kernel
theorem dL_isPassed_166 : decode cL_isPassed 166 = .ok (.goto (-21), 3) := by decide +kernel
theorem dL_isPassed_169 : decode cL_isPassed 169 = .ok (.iconst 0, 1) := by decide +kernel
theorem dL_isPassed_170 : decode cL_isPassed 170 = .ok (.istore 11, 2) := by decide +kernel
theorem dL_isPassed_172 : decode cL_isPassed 172 = .ok (.iload 11, 2) := by decide +kernel
theorem dL_isPassed_174 : decode cL_isPassed 174 = .ok (.aload_n 0, 1) := by decide +kernel
theorem dL_isPassed_175 : decode cL_isPassed 175 = .ok (.invokevirtual 98, 3) := by decide +kernel
theorem dL_isPassed_178 : decode cL_isPassed 178 = .ok (.if_icmp .ge 25, 3) := by decide +kernel
theorem dL_isPassed_181 : decode cL_isPassed 181 = .ok (.ldc2_w 105, 3) := by decide +kernel
theorem dL_isPassed_184 : decode cL_isPassed 184 = .ok (.lload 9, 2) := by decide +kernel
theorem dL_isPassed_186 : decode cL_isPassed 186 = .ok (.lmul, 1) := by decide +kernel
theorem dL_isPassed_187 : decode cL_isPassed 187 = .ok (.aload_n 0, 1) := by decide +kernel
theorem dL_isPassed_188 : decode cL_isPassed 188 = .ok (.iload 11, 2) := by decide +kernel
theorem dL_isPassed_190 : decode cL_isPassed 190 = .ok (.aload_n 3, 1) := by decide +kernel
theorem dL_isPassed_191 : decode cL_isPassed 191 = .ok (.invokestatic 107, 3) := by decide +kernel
theorem dL_isPassed_194 : decode cL_isPassed 194 = .ok (.ladd, 1) := by decide +kernel
theorem dL_isPassed_195 : decode cL_isPassed 195 = .ok (.lstore 9, 2) := by decide +kernel
theorem dL_isPassed_197 : decode cL_isPassed 197 = .ok (.iinc 11 1, 3) := by decide +kernel
theorem dL_isPassed_200 : decode cL_isPassed 200 = .ok (.goto (-28), 3) := by decide +kernel
theorem dL_isPassed_203 : decode cL_isPassed 203 = .ok (.iload 8, 2) := by decide +kernel
theorem dL_isPassed_205 : decode cL_isPassed 205 = .ok (.aload_n 1, 1) := by decide +kernel
theorem dL_isPassed_206 : decode cL_isPassed 206 = .ok (.iconst 0, 1) := by decide +kernel
theorem dL_isPassed_207 : decode cL_isPassed 207 = .ok (.iaload, 1) := by decide +kernel
theorem dL_isPassed_208 : decode cL_isPassed 208 = .ok (.if_icmp .ne 33, 3) := by decide +kernel
theorem dL_isPassed_211 : decode cL_isPassed 211 = .ok (.lload 9, 2) := by decide +kernel
theorem dL_isPassed_213 : decode cL_isPassed 213 = .ok (.lload 4, 2) := by decide +kernel
theorem dL_isPassed_215 : decode cL_isPassed 215 = .ok (.lcmp, 1) := by decide +kernel
theorem dL_isPassed_216 : decode cL_isPassed 216 = .ok (.ifCond .ne 25, 3) := by decide +kernel
theorem dL_isPassed_219 : decode cL_isPassed 219 = .ok (.iload 7, 2) := by decide +kernel
theorem dL_isPassed_221 : decode cL_isPassed 221 = .ok (.iload 6, 2) := by decide +kernel
theorem dL_isPassed_223 : decode cL_isPassed 223 = .ok (.if_icmp .gt 18, 3) := by decide +kernel
theorem dL_isPassed_226 : decode cL_isPassed 226 = .ok (.iload_n 2, 1) := by decide +kernel
theorem dL_isPassed_227 : decode cL_isPassed 227 = .ok (.bipush 90, 2) := by decide +kernel
theorem dL_isPassed_229 : decode cL_isPassed 229 = .ok (.if_icmp .lt 8, 3) := by decide +kernel
theorem dL_isPassed_232 : decode cL_isPassed 232 = .ok (.iload 7, 2) := by decide +kernel
theorem dL_isPassed_234 : decode cL_isPassed 234 = .ok (.ifCond .ne 7, 3) := by decide +kernel
theorem dL_isPassed_237 : decode cL_isPassed 237 = .ok (.iconst 1, 1) := by decide +kernel
theorem dL_isPassed_238 : decode cL_isPassed 238 = .ok (.goto 4, 3) := by decide +kernel
theorem dL_isPassed_241 : decode cL_isPassed 241 = .ok (.iconst 0, 1) := by decide +kernel
theorem dL_isPassed_242 : decode cL_isPassed 242 = .ok (.ireturn, 1) := by decide +kernel
