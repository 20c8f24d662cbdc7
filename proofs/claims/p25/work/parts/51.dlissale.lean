set_option maxRecDepth 20000 in
theorem ggL_isSale_X4_firstSale : GoodIn wsL_isSale wsX4_firstSale := goodIn_ca (goodIn_r _ [6, 7, 8, 9, 10, 5, 11, 12, 13, 14, 15, 16, 17, 18, 98, 99, 100, 101, 102, 103, 104, 105, 106, 107, 108, 109, 110, 111, 112] (by decide +kernel) (by decide +kernel)) (goodIn_sub (fun _ h => List.mem_cons_of_mem _ (List.mem_append_right _ h)) (by decide +kernel))
set_option maxRecDepth 20000 in
theorem gL_isSale_X4_firstSale : GoodIn wsL_isSale (wsV RL 64 RX4 yX4_firstSale wsX4_firstSale) := goodIn_app (goodIn_of _ (by decide +kernel)) ggL_isSale_X4_firstSale
set_option maxRecDepth 20000 in
theorem ggL_isSale_L_of : GoodIn wsL_isSale wsL_of := goodIn_ca (goodIn_r _ [22, 23, 1, 24, 25, 26, 5, 27, 28, 8, 9, 10, 11, 12, 13, 14, 15, 16, 17, 18, 29, 30, 31, 32, 33, 34, 35, 36, 37, 38, 39, 40, 41, 42, 43, 44, 45, 46, 47, 48, 49, 50, 51, 52, 53, 54, 55, 56, 2, 3, 4, 6, 7, 57, 58, 59, 60, 61, 62, 63, 64, 65, 66, 67, 68, 69, 70, 71, 72, 73, 74, 75, 76, 77, 78, 79, 80, 81, 82, 83, 84, 85, 86, 87, 88, 89, 90, 91, 92, 93, 94, 95, 96, 97, 98, 99, 100, 101, 102, 103, 104, 105, 106, 107, 108, 109, 110, 111, 112, 113, 114, 115, 116] (by decide +kernel) (by decide +kernel)) (goodIn_sub (fun _ h => List.mem_cons_of_mem _ (List.mem_append_right _ h)) (by decide +kernel))
set_option maxRecDepth 20000 in
theorem gL_isSale_L_of : GoodIn wsL_isSale (va_wsS RL 115 yL_of wsL_of) := goodIn_app (goodIn_of _ (by decide +kernel)) ggL_isSale_L_of
set_option maxRecDepth 20000 in
theorem ggL_isSale_X4_exchanges : GoodIn wsL_isSale wsX4_exchanges := goodIn_ca (goodIn_r _ [60, 61, 8, 9, 10, 5, 11, 12, 13, 14, 15, 16, 17, 18, 98, 99, 100, 101, 102, 103, 104, 105, 106, 107, 108, 109, 110, 111, 112] (by decide +kernel) (by decide +kernel)) (goodIn_sub (fun _ h => List.mem_cons_of_mem _ (List.mem_append_right _ h)) (by decide +kernel))
set_option maxRecDepth 20000 in
theorem gL_isSale_X4_exchanges : GoodIn wsL_isSale (wsV RL 67 RX4 yX4_exchanges wsX4_exchanges) := goodIn_app (goodIn_of _ (by decide +kernel)) ggL_isSale_X4_exchanges
set_option maxRecDepth 20000 in
theorem ggL_isSale_X4_lineValue : GoodIn wsL_isSale wsX4_lineValue := goodIn_ca (goodIn_r _ [78, 12, 13, 8, 9, 10, 5, 11, 14, 15, 16, 17, 18, 71, 72, 73, 36, 74, 38, 79, 80, 81, 82, 83, 34, 35, 37, 39, 40, 41, 42, 43, 44, 45, 47, 48, 49, 50, 51, 84, 85, 86, 87, 88, 89, 90, 91, 92, 93, 94, 95, 96, 97, 107, 108, 109, 110, 111, 112, 98, 99, 100, 101, 102, 103, 104, 105, 106, 113, 114, 115, 116] (by decide +kernel) (by decide +kernel)) (goodIn_sub (fun _ h => List.mem_cons_of_mem _ (List.mem_append_right _ h)) (by decide +kernel))
set_option maxRecDepth 20000 in
theorem gL_isSale_X4_lineValue : GoodIn wsL_isSale (wsV RL 73 RX4 yX4_lineValue wsX4_lineValue) := goodIn_app (goodIn_of _ (by decide +kernel)) ggL_isSale_X4_lineValue
set_option maxRecDepth 20000 in
theorem ggL_isSale_X4_kept : GoodIn wsL_isSale wsX4_kept := goodIn_ca (goodIn_r _ [65, 66, 67, 68, 69, 5, 70, 12, 13, 8, 9, 10, 11, 14, 15, 16, 17, 18, 71, 72, 73, 36, 74, 38, 113, 114, 115, 116, 107, 108, 109, 110, 111, 112, 98, 99, 100, 101, 102, 103, 104, 105, 106] (by decide +kernel) (by decide +kernel)) (goodIn_sub (fun _ h => List.mem_cons_of_mem _ (List.mem_append_right _ h)) (by decide +kernel))
set_option maxRecDepth 20000 in
theorem gL_isSale_X4_kept : GoodIn wsL_isSale (wsV RL 70 RX4 yX4_kept wsX4_kept) := goodIn_app (goodIn_of _ (by decide +kernel)) ggL_isSale_X4_kept
set_option maxRecDepth 20000 in
theorem ggL_isSale_X4_keptValue : GoodIn wsL_isSale wsX4_keptValue := goodIn_ca (goodIn_r _ [32, 8, 9, 10, 5, 11, 12, 13, 14, 15, 16, 17, 18, 33, 34, 35, 36, 37, 38, 39, 40, 41, 42, 43, 44, 45, 46, 47, 48, 49, 50, 51, 107, 108, 109, 110, 111, 112, 98, 99, 100, 101, 102, 103, 104, 105, 106, 113, 114, 115, 116] (by decide +kernel) (by decide +kernel)) (goodIn_sub (fun _ h => List.mem_cons_of_mem _ (List.mem_append_right _ h)) (by decide +kernel))
set_option maxRecDepth 20000 in
theorem gL_isSale_X4_keptValue : GoodIn wsL_isSale (wsV RL 58 RX4 yX4_keptValue wsX4_keptValue) := goodIn_app (goodIn_of _ (by decide +kernel)) ggL_isSale_X4_keptValue
set_option maxRecDepth 20000 in
theorem ggL_isSale_X4_released : GoodIn wsL_isSale wsX4_released := goodIn_ca (goodIn_r _ [55, 56, 8, 9, 10, 5, 11, 12, 13, 14, 15, 16, 17, 18, 98, 99, 100, 101, 102, 103, 104, 105, 106, 107, 108, 109, 110, 111, 112] (by decide +kernel) (by decide +kernel)) (goodIn_sub (fun _ h => List.mem_cons_of_mem _ (List.mem_append_right _ h)) (by decide +kernel))
set_option maxRecDepth 20000 in
theorem gL_isSale_X4_released : GoodIn wsL_isSale (wsV RL 61 RX4 yX4_released wsX4_released) := goodIn_app (goodIn_of _ (by decide +kernel)) ggL_isSale_X4_released
set_option maxRecDepth 20000 in
theorem ggL_isSale_X4_paid : GoodIn wsL_isSale wsX4_paid := goodIn_ca (goodIn_r _ [27, 28, 8, 9, 10, 5, 11, 12, 13, 14, 15, 16, 17, 18, 98, 99, 100, 101, 102, 103, 104, 105, 106, 107, 108, 109, 110, 111, 112] (by decide +kernel) (by decide +kernel)) (goodIn_sub (fun _ h => List.mem_cons_of_mem _ (List.mem_append_right _ h)) (by decide +kernel))
set_option maxRecDepth 20000 in
theorem gL_isSale_X4_paid : GoodIn wsL_isSale (wsV RL 55 RX4 yX4_paid wsX4_paid) := goodIn_app (goodIn_of _ (by decide +kernel)) ggL_isSale_X4_paid
theorem dL_isSale_0 : decode cL_isSale 0 = .ok (.iconst 0, 1) := by decide +kernel
theorem dL_isSale_1 : decode cL_isSale 1 = .ok (.istore 5, 2) := by decide +kernel
theorem dL_isSale_3 : decode cL_isSale 3 = .ok (.aload_n 0, 1) := by decide +kernel
theorem dL_isSale_4 : decode cL_isSale 4 = .ok (.iload_n 1, 1) := by decide +kernel
theorem dL_isSale_5 : decode cL_isSale 5 = .ok (.invokevirtual 64, 3) := by decide +kernel
theorem dL_isSale_8 : decode cL_isSale 8 = .ok (.istore 6, 2) := by decide +kernel
theorem dL_isSale_10 : decode cL_isSale 10 = .ok (.aload_n 2, 1) := by decide +kernel
theorem dL_isSale_11 : decode cL_isSale 11 = .ok (.iload_n 1, 1) := by decide +kernel
theorem dL_isSale_12 : decode cL_isSale 12 = .ok (.iaload, 1) := by decide +kernel
theorem dL_isSale_13 : decode cL_isSale 13 = .ok (.ifCond .ge 7, 3) := by decide +kernel
theorem dL_isSale_16 : decode cL_isSale 16 = .ok (.iconst 1, 1) := by decide +kernel
theorem dL_isSale_17 : decode cL_isSale 17 = .ok (.goto 4, 3) := by decide +kernel
theorem dL_isSale_20 : decode cL_isSale 20 = .ok (.iconst 0, 1) := by decide +kernel
theorem dL_isSale_21 : decode cL_isSale 21 = .ok (.istore 7, 2) := by decide +kernel
theorem dL_isSale_23 : decode cL_isSale 23 = .ok (.aload_n 0, 1) := by decide +kernel
theorem dL_isSale_24 : decode cL_isSale 24 = .ok (.iconst 5, 1) := by decide +kernel
theorem dL_isSale_25 : decode cL_isSale 25 = .ok (.iload_n 1, 1) := by decide +kernel
theorem dL_isSale_26 : decode cL_isSale 26 = .ok (.aload 4, 2) := by decide +kernel
theorem dL_isSale_28 : decode cL_isSale 28 = .ok (.iload_n 1, 1) := by decide +kernel
theorem dL_isSale_29 : decode cL_isSale 29 = .ok (.iaload, 1) := by decide +kernel
theorem dL_isSale_30 : decode cL_isSale 30 = .ok (.invokestatic 115, 3) := by decide +kernel
theorem dL_isSale_33 : decode cL_isSale 33 = .ok (.ldc 51, 2) := by decide +kernel
theorem dL_isSale_35 : decode cL_isSale 35 = .ok (.if_icmp .ne 106, 3) := by decide +kernel
theorem dL_isSale_38 : decode cL_isSale 38 = .ok (.aload_n 0, 1) := by decide +kernel
theorem dL_isSale_39 : decode cL_isSale 39 = .ok (.bipush 6, 2) := by decide +kernel
theorem dL_isSale_41 : decode cL_isSale 41 = .ok (.iload_n 1, 1) := by decide +kernel
theorem dL_isSale_42 : decode cL_isSale 42 = .ok (.aload 4, 2) := by decide +kernel
theorem dL_isSale_44 : decode cL_isSale 44 = .ok (.iload_n 1, 1) := by decide +kernel
theorem dL_isSale_45 : decode cL_isSale 45 = .ok (.iaload, 1) := by decide +kernel
theorem dL_isSale_46 : decode cL_isSale 46 = .ok (.invokestatic 115, 3) := by decide +kernel
theorem dL_isSale_49 : decode cL_isSale 49 = .ok (.ldc 51, 2) := by decide +kernel
theorem dL_isSale_51 : decode cL_isSale 51 = .ok (.if_icmp .ne 90, 3) := by decide +kernel
theorem dL_isSale_54 : decode cL_isSale 54 = .ok (.aload_n 0, 1) := by decide +kernel
theorem dL_isSale_55 : decode cL_isSale 55 = .ok (.iconst 5, 1) := by decide +kernel
theorem dL_isSale_56 : decode cL_isSale 56 = .ok (.iload_n 1, 1) := by decide +kernel
theorem dL_isSale_57 : decode cL_isSale 57 = .ok (.iconst (-1), 1) := by decide +kernel
theorem dL_isSale_58 : decode cL_isSale 58 = .ok (.invokestatic 115, 3) := by decide +kernel
theorem dL_isSale_61 : decode cL_isSale 61 = .ok (.ldc 51, 2) := by decide +kernel
theorem dL_isSale_63 : decode cL_isSale 63 = .ok (.if_icmp .ne 78, 3) := by decide +kernel
theorem dL_isSale_66 : decode cL_isSale 66 = .ok (.iload 6, 2) := by decide +kernel
theorem dL_isSale_68 : decode cL_isSale 68 = .ok (.ifCond .lt 73, 3) := by decide +kernel
theorem dL_isSale_71 : decode cL_isSale 71 = .ok (.iload 6, 2) := by decide +kernel
theorem dL_isSale_73 : decode cL_isSale 73 = .ok (.iload_n 1, 1) := by decide +kernel
theorem dL_isSale_74 : decode cL_isSale 74 = .ok (.if_icmp .gt 67, 3) := by decide +kernel
theorem dL_isSale_77 : decode cL_isSale 77 = .ok (.aload_n 0, 1) := by decide +kernel
theorem dL_isSale_78 : decode cL_isSale 78 = .ok (.iload 6, 2) := by decide +kernel
theorem dL_isSale_80 : decode cL_isSale 80 = .ok (.invokevirtual 64, 3) := by decide +kernel
theorem dL_isSale_83 : decode cL_isSale 83 = .ok (.iload 6, 2) := by decide +kernel
theorem dL_isSale_85 : decode cL_isSale 85 = .ok (.if_icmp .ne 56, 3) := by decide +kernel
theorem dL_isSale_88 : decode cL_isSale 88 = .ok (.aload_n 0, 1) := by decide +kernel
theorem dL_isSale_89 : decode cL_isSale 89 = .ok (.iload_n 1, 1) := by decide +kernel
theorem dL_isSale_90 : decode cL_isSale 90 = .ok (.invokevirtual 67, 3) := by decide +kernel
theorem dL_isSale_93 : decode cL_isSale 93 = .ok (.ifCond .ne 7, 3) := by decide +kernel
theorem dL_isSale_96 : decode cL_isSale 96 = .ok (.iconst 1, 1) := by decide +kernel
theorem dL_isSale_97 : decode cL_isSale 97 = .ok (.goto 4, 3) := by decide +kernel
theorem dL_isSale_100 : decode cL_isSale 100 = .ok (.iconst 0, 1) := by decide +kernel
theorem dL_isSale_101 : decode cL_isSale 101 = .ok (.iload 6, 2) := by decide +kernel
theorem dL_isSale_103 : decode cL_isSale 103 = .ok (.iload_n 1, 1) := by decide +kernel
theorem dL_isSale_104 : decode cL_isSale 104 = .ok (.if_icmp .ne 7, 3) := by decide +kernel
theorem dL_isSale_107 : decode cL_isSale 107 = .ok (.iconst 1, 1) := by decide +kernel
theorem dL_isSale_108 : decode cL_isSale 108 = .ok (.goto 4, 3) := by decide +kernel
theorem dL_isSale_111 : decode cL_isSale 111 = .ok (.iconst 0, 1) := by decide +kernel
theorem dL_isSale_112 : decode cL_isSale 112 = .ok (.if_icmp .ne 29, 3) := by decide +kernel
theorem dL_isSale_115 : decode cL_isSale 115 = .ok (.aload_n 0, 1) := by decide +kernel
theorem dL_isSale_116 : decode cL_isSale 116 = .ok (.iload_n 1, 1) := by decide +kernel
theorem dL_isSale_117 : decode cL_isSale 117 = .ok (.invokevirtual 67, 3) := by decide +kernel
theorem dL_isSale_120 : decode cL_isSale 120 = .ok (.iload_n 1, 1) := by decide +kernel
theorem dL_isSale_121 : decode cL_isSale 121 = .ok (.iload 6, 2) := by decide +kernel
theorem dL_isSale_123 : decode cL_isSale 123 = .ok (.isub, 1) := by decide +kernel
theorem dL_isSale_124 : decode cL_isSale 124 = .ok (.if_icmp .gt 17, 3) := by decide +kernel
theorem dL_isSale_127 : decode cL_isSale 127 = .ok (.aload_n 3, 1) := by decide +kernel
theorem dL_isSale_128 : decode cL_isSale 128 = .ok (.iload 6, 2) := by decide +kernel
theorem dL_isSale_130 : decode cL_isSale 130 = .ok (.iaload, 1) := by decide +kernel
theorem dL_isSale_131 : decode cL_isSale 131 = .ok (.aload_n 3, 1) := by decide +kernel
theorem dL_isSale_132 : decode cL_isSale 132 = .ok (.iload_n 1, 1) := by decide +kernel
theorem dL_isSale_133 : decode cL_isSale 133 = .ok (.iaload, 1) := by decide +kernel
theorem dL_isSale_134 : decode cL_isSale 134 = .ok (.if_icmp .ne 7, 3) := by decide +kernel
theorem dL_isSale_137 : decode cL_isSale 137 = .ok (.iconst 1, 1) := by decide +kernel
theorem dL_isSale_138 : decode cL_isSale 138 = .ok (.goto 4, 3) := by decide +kernel
theorem dL_isSale_141 : decode cL_isSale 141 = .ok (.iconst 0, 1) := by decide +kernel
theorem dL_isSale_142 : decode cL_isSale 142 = .ok (.istore 8, 2) := by decide +kernel
theorem dL_isSale_144 : decode cL_isSale 144 = .ok (.iconst 0, 1) := by decide +kernel
theorem dL_isSale_145 : decode cL_isSale 145 = .ok (.istore 9, 2) := by decide +kernel
theorem dL_isSale_147 : decode cL_isSale 147 = .ok (.iload 9, 2) := by decide +kernel
theorem dL_isSale_149 : decode cL_isSale 149 = .ok (.aload 4, 2) := by decide +kernel
theorem dL_isSale_151 : decode cL_isSale 151 = .ok (.iload_n 1, 1) := by decide +kernel
theorem dL_isSale_152 : decode cL_isSale 152 = .ok (.iaload, 1) := by decide +kernel
theorem dL_isSale_153 : decode cL_isSale 153 = .ok (.if_icmp .ge 94, 3) := by decide +kernel
theorem dL_isSale_156 : decode cL_isSale 156 = .ok (.iload 8, 2) := by decide +kernel
theorem dL_isSale_158 : decode cL_isSale 158 = .ok (.ifCond .eq 89, 3) := by decide +kernel
theorem dL_isSale_161 : decode cL_isSale 161 = .ok (.aload_n 0, 1) := by decide +kernel
theorem dL_isSale_162 : decode cL_isSale 162 = .ok (.iload_n 1, 1) := by decide +kernel
theorem dL_isSale_163 : decode cL_isSale 163 = .ok (.iload 9, 2) := by decide +kernel
theorem dL_isSale_165 : decode cL_isSale 165 = .ok (.invokevirtual 73, 3) := by decide +kernel
theorem dL_isSale_168 : decode cL_isSale 168 = .ok (.istore 10, 2) := by decide +kernel
theorem dL_isSale_170 : decode cL_isSale 170 = .ok (.aload_n 0, 1) := by decide +kernel
theorem dL_isSale_171 : decode cL_isSale 171 = .ok (.iload_n 1, 1) := by decide +kernel
theorem dL_isSale_172 : decode cL_isSale 172 = .ok (.iload 9, 2) := by decide +kernel
theorem dL_isSale_174 : decode cL_isSale 174 = .ok (.invokevirtual 70, 3) := by decide +kernel
theorem dL_isSale_177 : decode cL_isSale 177 = .ok (.ifCond .lt 54, 3) := by decide +kernel
theorem dL_isSale_180 : decode cL_isSale 180 = .ok (.aload_n 0, 1) := by decide +kernel
theorem dL_isSale_181 : decode cL_isSale 181 = .ok (.iload_n 1, 1) := by decide +kernel
theorem dL_isSale_182 : decode cL_isSale 182 = .ok (.iload 9, 2) := by decide +kernel
theorem dL_isSale_184 : decode cL_isSale 184 = .ok (.invokevirtual 70, 3) := by decide +kernel
theorem dL_isSale_187 : decode cL_isSale 187 = .ok (.bipush 20, 2) := by decide +kernel
theorem dL_isSale_189 : decode cL_isSale 189 = .ok (.if_icmp .gt 42, 3) := by decide +kernel
theorem dL_isSale_192 : decode cL_isSale 192 = .ok (.iload 10, 2) := by decide +kernel
theorem dL_isSale_194 : decode cL_isSale 194 = .ok (.ifCond .lt 37, 3) := by decide +kernel
theorem dL_isSale_197 : decode cL_isSale 197 = .ok (.aload_n 0, 1) := by decide +kernel
theorem dL_isSale_198 : decode cL_isSale 198 = .ok (.iload_n 1, 1) := by decide +kernel
theorem dL_isSale_199 : decode cL_isSale 199 = .ok (.iload 9, 2) := by decide +kernel
theorem dL_isSale_201 : decode cL_isSale 201 = .ok (.invokevirtual 70, 3) := by decide +kernel
theorem dL_isSale_204 : decode cL_isSale 204 = .ok (.ifCond .gt 8, 3) := by decide +kernel
theorem dL_isSale_207 : decode cL_isSale 207 = .ok (.iload 10, 2) := by decide +kernel
theorem dL_isSale_209 : decode cL_isSale 209 = .ok (.ifCond .ne 22, 3) := by decide +kernel
theorem dL_isSale_212 : decode cL_isSale 212 = .ok (.iload 7, 2) := by decide +kernel
theorem dL_isSale_214 : decode cL_isSale 214 = .ok (.ifCond .eq 13, 3) := by decide +kernel
theorem dL_isSale_217 : decode cL_isSale 217 = .ok (.aload_n 0, 1) := by decide +kernel
theorem dL_isSale_218 : decode cL_isSale 218 = .ok (.iload_n 1, 1) := by decide +kernel
theorem dL_isSale_219 : decode cL_isSale 219 = .ok (.iload 9, 2) := by decide +kernel
theorem dL_isSale_221 : decode cL_isSale 221 = .ok (.invokevirtual 70, 3) := by decide +kernel
theorem dL_isSale_224 : decode cL_isSale 224 = .ok (.ifCond .ne 7, 3) := by decide +kernel
theorem dL_isSale_227 : decode cL_isSale 227 = .ok (.iconst 1, 1) := by decide +kernel
theorem dL_isSale_228 : decode cL_isSale 228 = .ok (.goto 4, 3) := by decide +kernel
theorem dL_isSale_231 : decode cL_isSale 231 = .ok (.iconst 0, 1) := by decide +kernel
theorem dL_isSale_232 : decode cL_isSale 232 = .ok (.istore 8, 2) := by decide +kernel
theorem dL_isSale_234 : decode cL_isSale 234 = .ok (.iload 5, 2) := by decide +kernel
theorem dL_isSale_236 : decode cL_isSale 236 = .ok (.iload 10, 2) := by decide +kernel
theorem dL_isSale_238 : decode cL_isSale 238 = .ok (.iadd, 1) := by decide +kernel
theorem dL_isSale_239 : decode cL_isSale 239 = .ok (.istore 5, 2) := by decide +kernel
theorem dL_isSale_241 : decode cL_isSale 241 = .ok (.iinc 9 1, 3) := by decide +kernel
theorem dL_isSale_244 : decode cL_isSale 244 = .ok (.goto (-97), 3) := by decide +kernel
theorem dL_isSale_247 : decode cL_isSale 247 = .ok (.iload 8, 2) := by decide +kernel
theorem dL_isSale_249 : decode cL_isSale 249 = .ok (.ifCond .eq 90, 3) := by decide +kernel
theorem dL_isSale_252 : decode cL_isSale 252 = .ok (.iload 5, 2) := by decide +kernel
theorem dL_isSale_254 : decode cL_isSale 254 = .ok (.aload_n 0, 1) := by decide +kernel
theorem dL_isSale_255 : decode cL_isSale 255 = .ok (.iload_n 1, 1) := by decide +kernel
theorem dL_isSale_256 : decode cL_isSale 256 = .ok (.invokevirtual 58, 3) := by decide +kernel
theorem dL_isSale_259 : decode cL_isSale 259 = .ok (.if_icmp .ne 80, 3) := by decide +kernel
theorem dL_isSale_262 : decode cL_isSale 262 = .ok (.aload_n 0, 1) := by decide +kernel
theorem dL_isSale_263 : decode cL_isSale 263 = .ok (.iload_n 1, 1) := by decide +kernel
theorem dL_isSale_264 : decode cL_isSale 264 = .ok (.invokevirtual 61, 3) := by decide +kernel
theorem dL_isSale_267 : decode cL_isSale 267 = .ok (.ifCond .lt 72, 3) := by decide +kernel
theorem dL_isSale_270 : decode cL_isSale 270 = .ok (.aload_n 0, 1) := by decide +kernel
theorem dL_isSale_271 : decode cL_isSale 271 = .ok (.iload_n 1, 1) := by decide +kernel
theorem dL_isSale_272 : decode cL_isSale 272 = .ok (.invokevirtual 61, 3) := by decide +kernel
theorem dL_isSale_275 : decode cL_isSale 275 = .ok (.aload_n 0, 1) := by decide +kernel
theorem dL_isSale_276 : decode cL_isSale 276 = .ok (.iload_n 1, 1) := by decide +kernel
theorem dL_isSale_277 : decode cL_isSale 277 = .ok (.invokevirtual 55, 3) := by decide +kernel
theorem dL_isSale_280 : decode cL_isSale 280 = .ok (.if_icmp .gt 59, 3) := by decide +kernel
theorem dL_isSale_283 : decode cL_isSale 283 = .ok (.aload_n 0, 1) := by decide +kernel
theorem dL_isSale_284 : decode cL_isSale 284 = .ok (.iload_n 1, 1) := by decide +kernel
theorem dL_isSale_285 : decode cL_isSale 285 = .ok (.invokevirtual 61, 3) := by decide +kernel
theorem dL_isSale_288 : decode cL_isSale 288 = .ok (.aload_n 0, 1) := by decide +kernel
theorem dL_isSale_289 : decode cL_isSale 289 = .ok (.iload_n 1, 1) := by decide +kernel
theorem dL_isSale_290 : decode cL_isSale 290 = .ok (.invokevirtual 55, 3) := by decide +kernel
theorem dL_isSale_293 : decode cL_isSale 293 = .ok (.aload_n 0, 1) := by decide +kernel
theorem dL_isSale_294 : decode cL_isSale 294 = .ok (.iload_n 1, 1) := by decide +kernel
theorem dL_isSale_295 : decode cL_isSale 295 = .ok (.invokevirtual 58, 3) := by decide +kernel
theorem dL_isSale_298 : decode cL_isSale 298 = .ok (.isub, 1) := by decide +kernel
theorem dL_isSale_299 : decode cL_isSale 299 = .ok (.if_icmp .lt 40, 3) := by decide +kernel
theorem dL_isSale_302 : decode cL_isSale 302 = .ok (.iload 7, 2) := by decide +kernel
theorem dL_isSale_304 : decode cL_isSale 304 = .ok (.ifCond .eq 11, 3) := by decide +kernel
theorem dL_isSale_307 : decode cL_isSale 307 = .ok (.aload_n 0, 1) := by decide +kernel
theorem dL_isSale_308 : decode cL_isSale 308 = .ok (.iload_n 1, 1) := by decide +kernel
theorem dL_isSale_309 : decode cL_isSale 309 = .ok (.invokevirtual 55, 3) := by decide +kernel
theorem dL_isSale_312 : decode cL_isSale 312 = .ok (.ifCond .ne 27, 3) := by decide +kernel
theorem dL_isSale_315 : decode cL_isSale 315 = .ok (.iload 7, 2) := by decide +kernel
theorem dL_isSale_317 : decode cL_isSale 317 = .ok (.ifCond .ne 18, 3) := by decide +kernel
theorem dL_isSale_320 : decode cL_isSale 320 = .ok (.aload 4, 2) := by decide +kernel
theorem dL_isSale_322 : decode cL_isSale 322 = .ok (.iload_n 1, 1) := by decide +kernel
theorem dL_isSale_323 : decode cL_isSale 323 = .ok (.iaload, 1) := by decide +kernel
theorem dL_isSale_324 : decode cL_isSale 324 = .ok (.ifCond .le 15, 3) := by decide +kernel
theorem dL_isSale_327 : decode cL_isSale 327 = .ok (.aload_n 0, 1) := by decide +kernel
theorem dL_isSale_328 : decode cL_isSale 328 = .ok (.iload_n 1, 1) := by decide +kernel
theorem dL_isSale_329 : decode cL_isSale 329 = .ok (.invokevirtual 55, 3) := by decide +kernel
theorem dL_isSale_332 : decode cL_isSale 332 = .ok (.ifCond .le 7, 3) := by decide +kernel
theorem dL_isSale_335 : decode cL_isSale 335 = .ok (.iconst 1, 1) := by decide +kernel
theorem dL_isSale_336 : decode cL_isSale 336 = .ok (.goto 4, 3) := by decide +kernel
theorem dL_isSale_339 : decode cL_isSale 339 = .ok (.iconst 0, 1) := by decide +kernel
theorem dL_isSale_340 : decode cL_isSale 340 = .ok (.ireturn, 1) := by decide +kernel
set_option maxRecDepth 20000 in
theorem ggL_areOptions_X4_bestWorth : GoodIn wsL_areOptions wsX4_bestWorth := goodIn_ca (goodIn_r _ [5, 6, 7, 8, 9, 10, 4, 11, 12, 13, 14, 15, 16, 17, 18, 19, 20, 21, 22, 23, 24, 25, 26, 27, 28, 29, 30, 31, 32, 33, 34, 35, 36, 37, 38, 39, 40, 41, 42, 43, 44, 45, 46, 47, 52, 53, 54, 55, 56, 57, 58, 59, 60, 61] (by decide +kernel) (by decide +kernel)) (goodIn_sub (fun _ h => List.mem_cons_of_mem _ (List.mem_append_right _ h)) (by decide +kernel))
set_option maxRecDepth 20000 in
theorem gL_areOptions_X4_bestWorth : GoodIn wsL_areOptions (wsV RL 26 RX4 yX4_bestWorth wsX4_bestWorth) := goodIn_app (goodIn_of _ (by decide +kernel)) ggL_areOptions_X4_bestWorth
set_option maxRecDepth 20000 in
theorem ggL_areOptions_X4_bestOption : GoodIn wsL_areOptions wsX4_bestOption := goodIn_ca (goodIn_r _ [51, 6, 7, 8, 9, 10, 4, 11, 12, 13, 14, 15, 16, 17, 18, 19, 20, 21, 22, 23, 24, 25, 26, 27, 28, 29, 30, 31, 32, 33, 34, 35, 36, 37, 38, 39, 40, 41, 42, 43, 44, 45, 46, 52, 53, 54, 55, 56, 57, 58, 59, 60, 61] (by decide +kernel) (by decide +kernel)) (goodIn_sub (fun _ h => List.mem_cons_of_mem _ (List.mem_append_right _ h)) (by decide +kernel))
set_option maxRecDepth 20000 in
theorem gL_areOptions_X4_bestOption : GoodIn wsL_areOptions (wsV RL 22 RX4 yX4_bestOption wsX4_bestOption) := goodIn_app (goodIn_of _ (by decide +kernel)) ggL_areOptions_X4_bestOption
theorem dL_areOptions_0 : decode cL_areOptions 0 = .ok (.bipush 80, 2) := by decide +kernel
theorem dL_areOptions_2 : decode cL_areOptions 2 = .ok (.iload_n 2, 1) := by decide +kernel
theorem dL_areOptions_3 : decode cL_areOptions 3 = .ok (.imul, 1) := by decide +kernel
theorem dL_areOptions_4 : decode cL_areOptions 4 = .ok (.bipush 100, 2) := by decide +kernel
theorem dL_areOptions_6 : decode cL_areOptions 6 = .ok (.iload 4, 2) := by decide +kernel
theorem dL_areOptions_8 : decode cL_areOptions 8 = .ok (.imul, 1) := by decide +kernel
theorem dL_areOptions_9 : decode cL_areOptions 9 = .ok (.isub, 1) := by decide +kernel
theorem dL_areOptions_10 : decode cL_areOptions 10 = .ok (.istore 5, 2) := by decide +kernel
theorem dL_areOptions_12 : decode cL_areOptions 12 = .ok (.iload 5, 2) := by decide +kernel
theorem dL_areOptions_14 : decode cL_areOptions 14 = .ok (.bipush 100, 2) := by decide +kernel
theorem dL_areOptions_16 : decode cL_areOptions 16 = .ok (.iload_n 3, 1) := by decide +kernel
theorem dL_areOptions_17 : decode cL_areOptions 17 = .ok (.imul, 1) := by decide +kernel
theorem dL_areOptions_18 : decode cL_areOptions 18 = .ok (.if_icmp .le 8, 3) := by decide +kernel
theorem dL_areOptions_21 : decode cL_areOptions 21 = .ok (.iload 5, 2) := by decide +kernel
theorem dL_areOptions_23 : decode cL_areOptions 23 = .ok (.goto 7, 3) := by decide +kernel
theorem dL_areOptions_26 : decode cL_areOptions 26 = .ok (.bipush 100, 2) := by decide +kernel
theorem dL_areOptions_28 : decode cL_areOptions 28 = .ok (.iload_n 3, 1) := by decide +kernel
theorem dL_areOptions_29 : decode cL_areOptions 29 = .ok (.imul, 1) := by decide +kernel
theorem dL_areOptions_30 : decode cL_areOptions 30 = .ok (.istore 6, 2) := by decide +kernel
theorem dL_areOptions_32 : decode cL_areOptions 32 = .ok (.bipush 68, 2) := by decide +kernel
theorem dL_areOptions_34 : decode cL_areOptions 34 = .ok (.iload_n 2, 1) := by decide +kernel
theorem dL_areOptions_35 : decode cL_areOptions 35 = .ok (.imul, 1) := by decide +kernel
theorem dL_areOptions_36 : decode cL_areOptions 36 = .ok (.sipush 5000, 3) := by decide +kernel
theorem dL_areOptions_39 : decode cL_areOptions 39 = .ok (.isub, 1) := by decide +kernel
theorem dL_areOptions_40 : decode cL_areOptions 40 = .ok (.iload 6, 2) := by decide +kernel
theorem dL_areOptions_42 : decode cL_areOptions 42 = .ok (.iconst 5, 1) := by decide +kernel
theorem dL_areOptions_43 : decode cL_areOptions 43 = .ok (.idiv, 1) := by decide +kernel
theorem dL_areOptions_44 : decode cL_areOptions 44 = .ok (.iadd, 1) := by decide +kernel
theorem dL_areOptions_45 : decode cL_areOptions 45 = .ok (.istore 7, 2) := by decide +kernel
theorem dL_areOptions_47 : decode cL_areOptions 47 = .ok (.aload_n 0, 1) := by decide +kernel
theorem dL_areOptions_48 : decode cL_areOptions 48 = .ok (.iload_n 1, 1) := by decide +kernel
theorem dL_areOptions_49 : decode cL_areOptions 49 = .ok (.iconst 1, 1) := by decide +kernel
theorem dL_areOptions_50 : decode cL_areOptions 50 = .ok (.invokevirtual 26, 3) := by decide +kernel
theorem dL_areOptions_53 : decode cL_areOptions 53 = .ok (.istore 8, 2) := by decide +kernel
theorem dL_areOptions_55 : decode cL_areOptions 55 = .ok (.aload_n 0, 1) := by decide +kernel
theorem dL_areOptions_56 : decode cL_areOptions 56 = .ok (.iload_n 1, 1) := by decide +kernel
theorem dL_areOptions_57 : decode cL_areOptions 57 = .ok (.iconst 1, 1) := by decide +kernel
theorem dL_areOptions_58 : decode cL_areOptions 58 = .ok (.invokevirtual 22, 3) := by decide +kernel
theorem dL_areOptions_61 : decode cL_areOptions 61 = .ok (.istore 9, 2) := by decide +kernel
theorem dL_areOptions_63 : decode cL_areOptions 63 = .ok (.aload_n 0, 1) := by decide +kernel
theorem dL_areOptions_64 : decode cL_areOptions 64 = .ok (.iload_n 1, 1) := by decide +kernel
theorem dL_areOptions_65 : decode cL_areOptions 65 = .ok (.iconst 0, 1) := by decide +kernel
theorem dL_areOptions_66 : decode cL_areOptions 66 = .ok (.invokevirtual 22, 3) := by decide +kernel
theorem dL_areOptions_69 : decode cL_areOptions 69 = .ok (.ifCond .ne 107, 3) := by decide +kernel
theorem dL_areOptions_72 : decode cL_areOptions 72 = .ok (.aload_n 0, 1) := by decide +kernel
theorem dL_areOptions_73 : decode cL_areOptions 73 = .ok (.iload_n 1, 1) := by decide +kernel
theorem dL_areOptions_74 : decode cL_areOptions 74 = .ok (.iconst 0, 1) := by decide +kernel
theorem dL_areOptions_75 : decode cL_areOptions 75 = .ok (.invokevirtual 26, 3) := by decide +kernel
theorem dL_areOptions_78 : decode cL_areOptions 78 = .ok (.bipush 100, 2) := by decide +kernel
theorem dL_areOptions_80 : decode cL_areOptions 80 = .ok (.iload_n 2, 1) := by decide +kernel
theorem dL_areOptions_81 : decode cL_areOptions 81 = .ok (.imul, 1) := by decide +kernel
theorem dL_areOptions_82 : decode cL_areOptions 82 = .ok (.if_icmp .ne 94, 3) := by decide +kernel
theorem dL_areOptions_85 : decode cL_areOptions 85 = .ok (.aload_n 0, 1) := by decide +kernel
theorem dL_areOptions_86 : decode cL_areOptions 86 = .ok (.iload_n 1, 1) := by decide +kernel
theorem dL_areOptions_87 : decode cL_areOptions 87 = .ok (.iconst 2, 1) := by decide +kernel
theorem dL_areOptions_88 : decode cL_areOptions 88 = .ok (.invokevirtual 26, 3) := by decide +kernel
theorem dL_areOptions_91 : decode cL_areOptions 91 = .ok (.iload 6, 2) := by decide +kernel
theorem dL_areOptions_93 : decode cL_areOptions 93 = .ok (.if_icmp .ne 83, 3) := by decide +kernel
theorem dL_areOptions_96 : decode cL_areOptions 96 = .ok (.aload_n 0, 1) := by decide +kernel
theorem dL_areOptions_97 : decode cL_areOptions 97 = .ok (.iload_n 1, 1) := by decide +kernel
theorem dL_areOptions_98 : decode cL_areOptions 98 = .ok (.iconst 2, 1) := by decide +kernel
theorem dL_areOptions_99 : decode cL_areOptions 99 = .ok (.invokevirtual 22, 3) := by decide +kernel
theorem dL_areOptions_102 : decode cL_areOptions 102 = .ok (.iload 5, 2) := by decide +kernel
theorem dL_areOptions_104 : decode cL_areOptions 104 = .ok (.iload 6, 2) := by decide +kernel
theorem dL_areOptions_106 : decode cL_areOptions 106 = .ok (.if_icmp .ne 7, 3) := by decide +kernel
theorem dL_areOptions_109 : decode cL_areOptions 109 = .ok (.iconst 2, 1) := by decide +kernel
theorem dL_areOptions_110 : decode cL_areOptions 110 = .ok (.goto 4, 3) := by decide +kernel
theorem dL_areOptions_113 : decode cL_areOptions 113 = .ok (.iconst 3, 1) := by decide +kernel
theorem dL_areOptions_114 : decode cL_areOptions 114 = .ok (.if_icmp .ne 62, 3) := by decide +kernel
theorem dL_areOptions_117 : decode cL_areOptions 117 = .ok (.aload_n 0, 1) := by decide +kernel
theorem dL_areOptions_118 : decode cL_areOptions 118 = .ok (.iload_n 1, 1) := by decide +kernel
theorem dL_areOptions_119 : decode cL_areOptions 119 = .ok (.iconst 3, 1) := by decide +kernel
theorem dL_areOptions_120 : decode cL_areOptions 120 = .ok (.invokevirtual 26, 3) := by decide +kernel
theorem dL_areOptions_123 : decode cL_areOptions 123 = .ok (.iload 6, 2) := by decide +kernel
theorem dL_areOptions_125 : decode cL_areOptions 125 = .ok (.bipush 60, 2) := by decide +kernel
theorem dL_areOptions_127 : decode cL_areOptions 127 = .ok (.iload_n 2, 1) := by decide +kernel
theorem dL_areOptions_128 : decode cL_areOptions 128 = .ok (.imul, 1) := by decide +kernel
theorem dL_areOptions_129 : decode cL_areOptions 129 = .ok (.if_icmp .le 8, 3) := by decide +kernel
theorem dL_areOptions_132 : decode cL_areOptions 132 = .ok (.iload 6, 2) := by decide +kernel
theorem dL_areOptions_134 : decode cL_areOptions 134 = .ok (.goto 7, 3) := by decide +kernel
theorem dL_areOptions_137 : decode cL_areOptions 137 = .ok (.bipush 60, 2) := by decide +kernel
theorem dL_areOptions_139 : decode cL_areOptions 139 = .ok (.iload_n 2, 1) := by decide +kernel
theorem dL_areOptions_140 : decode cL_areOptions 140 = .ok (.imul, 1) := by decide +kernel
theorem dL_areOptions_141 : decode cL_areOptions 141 = .ok (.if_icmp .ne 35, 3) := by decide +kernel
theorem dL_areOptions_144 : decode cL_areOptions 144 = .ok (.aload_n 0, 1) := by decide +kernel
theorem dL_areOptions_145 : decode cL_areOptions 145 = .ok (.iload_n 1, 1) := by decide +kernel
theorem dL_areOptions_146 : decode cL_areOptions 146 = .ok (.iconst 3, 1) := by decide +kernel
theorem dL_areOptions_147 : decode cL_areOptions 147 = .ok (.invokevirtual 22, 3) := by decide +kernel
theorem dL_areOptions_150 : decode cL_areOptions 150 = .ok (.iload 6, 2) := by decide +kernel
theorem dL_areOptions_152 : decode cL_areOptions 152 = .ok (.bipush 60, 2) := by decide +kernel
theorem dL_areOptions_154 : decode cL_areOptions 154 = .ok (.iload_n 2, 1) := by decide +kernel
theorem dL_areOptions_155 : decode cL_areOptions 155 = .ok (.imul, 1) := by decide +kernel
theorem dL_areOptions_156 : decode cL_areOptions 156 = .ok (.if_icmp .lt 12, 3) := by decide +kernel
theorem dL_areOptions_159 : decode cL_areOptions 159 = .ok (.aload_n 0, 1) := by decide +kernel
theorem dL_areOptions_160 : decode cL_areOptions 160 = .ok (.iload_n 1, 1) := by decide +kernel
theorem dL_areOptions_161 : decode cL_areOptions 161 = .ok (.iconst 2, 1) := by decide +kernel
theorem dL_areOptions_162 : decode cL_areOptions 162 = .ok (.invokevirtual 22, 3) := by decide +kernel
theorem dL_areOptions_165 : decode cL_areOptions 165 = .ok (.goto 4, 3) := by decide +kernel
theorem dL_areOptions_168 : decode cL_areOptions 168 = .ok (.iconst 4, 1) := by decide +kernel
theorem dL_areOptions_169 : decode cL_areOptions 169 = .ok (.if_icmp .ne 7, 3) := by decide +kernel
theorem dL_areOptions_172 : decode cL_areOptions 172 = .ok (.iconst 1, 1) := by decide +kernel
theorem dL_areOptions_173 : decode cL_areOptions 173 = .ok (.goto 4, 3) := by decide +kernel
theorem dL_areOptions_176 : decode cL_areOptions 176 = .ok (.iconst 0, 1) := by decide +kernel
theorem dL_areOptions_177 : decode cL_areOptions 177 = .ok (.istore 10, 2) := by decide +kernel
theorem dL_areOptions_179 : decode cL_areOptions 179 = .ok (.iload 10, 2) := by decide +kernel
theorem dL_areOptions_181 : decode cL_areOptions 181 = .ok (.ifCond .eq 105, 3) := by decide +kernel
theorem dL_areOptions_184 : decode cL_areOptions 184 = .ok (.iload 8, 2) := by decide +kernel
theorem dL_areOptions_186 : decode cL_areOptions 186 = .ok (.bipush 46, 2) := by decide +kernel
theorem dL_areOptions_188 : decode cL_areOptions 188 = .ok (.iload_n 2, 1) := by decide +kernel
theorem dL_areOptions_189 : decode cL_areOptions 189 = .ok (.imul, 1) := by decide +kernel
theorem dL_areOptions_190 : decode cL_areOptions 190 = .ok (.if_icmp .lt 96, 3) := by decide +kernel
theorem dL_areOptions_193 : decode cL_areOptions 193 = .ok (.iload 8, 2) := by decide +kernel
theorem dL_areOptions_195 : decode cL_areOptions 195 = .ok (.iload 7, 2) := by decide +kernel
theorem dL_areOptions_197 : decode cL_areOptions 197 = .ok (.if_icmp .lt 89, 3) := by decide +kernel
theorem dL_areOptions_200 : decode cL_areOptions 200 = .ok (.iload 8, 2) := by decide +kernel
theorem dL_areOptions_202 : decode cL_areOptions 202 = .ok (.bipush 100, 2) := by decide +kernel
theorem dL_areOptions_204 : decode cL_areOptions 204 = .ok (.iload_n 3, 1) := by decide +kernel
theorem dL_areOptions_205 : decode cL_areOptions 205 = .ok (.imul, 1) := by decide +kernel
theorem dL_areOptions_206 : decode cL_areOptions 206 = .ok (.if_icmp .lt 80, 3) := by decide +kernel
theorem dL_areOptions_209 : decode cL_areOptions 209 = .ok (.iload 9, 2) := by decide +kernel
theorem dL_areOptions_211 : decode cL_areOptions 211 = .ok (.ifCond .ne 15, 3) := by decide +kernel
theorem dL_areOptions_214 : decode cL_areOptions 214 = .ok (.iload 8, 2) := by decide +kernel
theorem dL_areOptions_216 : decode cL_areOptions 216 = .ok (.bipush 46, 2) := by decide +kernel
theorem dL_areOptions_218 : decode cL_areOptions 218 = .ok (.iload_n 2, 1) := by decide +kernel
theorem dL_areOptions_219 : decode cL_areOptions 219 = .ok (.imul, 1) := by decide +kernel
theorem dL_areOptions_220 : decode cL_areOptions 220 = .ok (.if_icmp .ne 66, 3) := by decide +kernel
theorem dL_areOptions_223 : decode cL_areOptions 223 = .ok (.goto 59, 3) := by decide +kernel
theorem dL_areOptions_226 : decode cL_areOptions 226 = .ok (.iload 9, 2) := by decide +kernel
theorem dL_areOptions_228 : decode cL_areOptions 228 = .ok (.iconst 1, 1) := by decide +kernel
theorem dL_areOptions_229 : decode cL_areOptions 229 = .ok (.if_icmp .ne 22, 3) := by decide +kernel
theorem dL_areOptions_232 : decode cL_areOptions 232 = .ok (.iload 8, 2) := by decide +kernel
theorem dL_areOptions_234 : decode cL_areOptions 234 = .ok (.iload 7, 2) := by decide +kernel
theorem dL_areOptions_236 : decode cL_areOptions 236 = .ok (.if_icmp .ne 50, 3) := by decide +kernel
theorem dL_areOptions_239 : decode cL_areOptions 239 = .ok (.iload 8, 2) := by decide +kernel
theorem dL_areOptions_241 : decode cL_areOptions 241 = .ok (.bipush 46, 2) := by decide +kernel
theorem dL_areOptions_243 : decode cL_areOptions 243 = .ok (.iload_n 2, 1) := by decide +kernel
theorem dL_areOptions_244 : decode cL_areOptions 244 = .ok (.imul, 1) := by decide +kernel
theorem dL_areOptions_245 : decode cL_areOptions 245 = .ok (.if_icmp .le 41, 3) := by decide +kernel
theorem dL_areOptions_248 : decode cL_areOptions 248 = .ok (.goto 34, 3) := by decide +kernel
theorem dL_areOptions_251 : decode cL_areOptions 251 = .ok (.iload 9, 2) := by decide +kernel
theorem dL_areOptions_253 : decode cL_areOptions 253 = .ok (.iconst 3, 1) := by decide +kernel
theorem dL_areOptions_254 : decode cL_areOptions 254 = .ok (.if_icmp .ne 32, 3) := by decide +kernel
theorem dL_areOptions_257 : decode cL_areOptions 257 = .ok (.iload 8, 2) := by decide +kernel
theorem dL_areOptions_259 : decode cL_areOptions 259 = .ok (.bipush 100, 2) := by decide +kernel
theorem dL_areOptions_261 : decode cL_areOptions 261 = .ok (.iload_n 3, 1) := by decide +kernel
theorem dL_areOptions_262 : decode cL_areOptions 262 = .ok (.imul, 1) := by decide +kernel
theorem dL_areOptions_263 : decode cL_areOptions 263 = .ok (.if_icmp .ne 23, 3) := by decide +kernel
theorem dL_areOptions_266 : decode cL_areOptions 266 = .ok (.iload 8, 2) := by decide +kernel
theorem dL_areOptions_268 : decode cL_areOptions 268 = .ok (.bipush 46, 2) := by decide +kernel
theorem dL_areOptions_270 : decode cL_areOptions 270 = .ok (.iload_n 2, 1) := by decide +kernel
theorem dL_areOptions_271 : decode cL_areOptions 271 = .ok (.imul, 1) := by decide +kernel
theorem dL_areOptions_272 : decode cL_areOptions 272 = .ok (.if_icmp .le 14, 3) := by decide +kernel
theorem dL_areOptions_275 : decode cL_areOptions 275 = .ok (.iload 8, 2) := by decide +kernel
theorem dL_areOptions_277 : decode cL_areOptions 277 = .ok (.iload 7, 2) := by decide +kernel
theorem dL_areOptions_279 : decode cL_areOptions 279 = .ok (.if_icmp .le 7, 3) := by decide +kernel
theorem dL_areOptions_282 : decode cL_areOptions 282 = .ok (.iconst 1, 1) := by decide +kernel
theorem dL_areOptions_283 : decode cL_areOptions 283 = .ok (.goto 4, 3) := by decide +kernel
theorem dL_areOptions_286 : decode cL_areOptions 286 = .ok (.iconst 0, 1) := by decide +kernel
theorem dL_areOptions_287 : decode cL_areOptions 287 = .ok (.ireturn, 1) := by decide +kernel
