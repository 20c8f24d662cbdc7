theorem dX4_exchange_129 : decode cX4_exchange 129 = .ok (.aload 7, 2) := by decide +kernel
theorem dX4_exchange_131 : decode cX4_exchange 131 = .ok (.getfield 190, 3) := by decide +kernel
theorem dX4_exchange_134 : decode cX4_exchange 134 = .ok (.aload 7, 2) := by decide +kernel
theorem dX4_exchange_136 : decode cX4_exchange 136 = .ok (.getfield 187, 3) := by decide +kernel
theorem dX4_exchange_139 : decode cX4_exchange 139 = .ok (.iconst 1, 1) := by decide +kernel
theorem dX4_exchange_140 : decode cX4_exchange 140 = .ok (.iadd, 1) := by decide +kernel
theorem dX4_exchange_141 : decode cX4_exchange 141 = .ok (.invokespecial 80, 3) := by decide +kernel
theorem dX4_exchange_144 : decode cX4_exchange 144 = .ok (.astore 10, 2) := by decide +kernel
theorem dX4_exchange_146 : decode cX4_exchange 146 = .ok (.aload 10, 2) := by decide +kernel
theorem dX4_exchange_148 : decode cX4_exchange 148 = .ok (.new 105, 3) := by decide +kernel
theorem dX4_exchange_151 : decode cX4_exchange 151 = .ok (.dup, 1) := by decide +kernel
theorem dX4_exchange_152 : decode cX4_exchange 152 = .ok (.aload 8, 2) := by decide +kernel
theorem dX4_exchange_154 : decode cX4_exchange 154 = .ok (.iload_n 3, 1) := by decide +kernel
theorem dX4_exchange_155 : decode cX4_exchange 155 = .ok (.invokespecial 107, 3) := by decide +kernel
theorem dX4_exchange_158 : decode cX4_exchange 158 = .ok (.invokevirtual 110, 3) := by decide +kernel
theorem dX4_exchange_161 : decode cX4_exchange 161 = .ok (.pop, 1) := by decide +kernel
theorem dX4_exchange_162 : decode cX4_exchange 162 = .ok (.aload 10, 2) := by decide +kernel
theorem dX4_exchange_164 : decode cX4_exchange 164 = .ok (.aload 7, 2) := by decide +kernel
theorem dX4_exchange_166 : decode cX4_exchange 166 = .ok (.getfield 193, 3) := by decide +kernel
theorem dX4_exchange_169 : decode cX4_exchange 169 = .ok (.invokevirtual 116, 3) := by decide +kernel
theorem dX4_exchange_172 : decode cX4_exchange 172 = .ok (.aload_n 0, 1) := by decide +kernel
theorem dX4_exchange_173 : decode cX4_exchange 173 = .ok (.aload 10, 2) := by decide +kernel
theorem dX4_exchange_175 : decode cX4_exchange 175 = .ok (.invokevirtual 83, 3) := by decide +kernel
theorem dX4_exchange_178 : decode cX4_exchange 178 = .ok (.pop, 1) := by decide +kernel
theorem dX4_exchange_179 : decode cX4_exchange 179 = .ok (.aload 10, 2) := by decide +kernel
theorem dX4_exchange_181 : decode cX4_exchange 181 = .ok (.getfield 120, 3) := by decide +kernel
theorem dX4_exchange_184 : decode cX4_exchange 184 = .ok (.iload 9, 2) := by decide +kernel
theorem dX4_exchange_186 : decode cX4_exchange 186 = .ok (.isub, 1) := by decide +kernel
theorem dX4_exchange_187 : decode cX4_exchange 187 = .ok (.ireturn, 1) := by decide +kernel
set_option maxRecDepth 20000 in
theorem ggX4_quote_X4_existingLine : GoodIn wsX4_quote wsX4_existingLine := goodIn_ca (goodIn_r _ [9, 10, 11, 12, 13, 14, 8, 15, 16, 17, 18, 19, 20, 21, 22, 23, 24, 25, 26, 74, 75, 76, 77, 78, 79, 80, 81, 82, 83, 84, 85, 86, 87, 88] (by decide +kernel) (by decide +kernel)) (goodIn_sub (fun _ h => List.mem_cons_of_mem _ (List.mem_append_right _ h)) (by decide +kernel))
set_option maxRecDepth 20000 in
theorem gX4_quote_X4_existingLine : GoodIn wsX4_quote (wsV RX4 123 RX4 yX4_existingLine wsX4_existingLine) := goodIn_app (goodIn_of _ (by decide +kernel)) ggX4_quote_X4_existingLine
set_option maxRecDepth 20000 in
theorem ggX4_quote_X4_existingSale : GoodIn wsX4_quote wsX4_existingSale := goodIn_ca (goodIn_r _ [15, 10, 11, 16, 17, 18, 8, 19, 20, 74, 75, 76, 77, 78, 79] (by decide +kernel) (by decide +kernel)) (goodIn_sub (fun _ h => List.mem_cons_of_mem _ (List.mem_append_right _ h)) (by decide +kernel))
set_option maxRecDepth 20000 in
theorem gX4_quote_X4_existingSale : GoodIn wsX4_quote (wsV RX4 87 RX4 yX4_existingSale wsX4_existingSale) := goodIn_app (goodIn_of _ (by decide +kernel)) ggX4_quote_X4_existingSale
set_option maxRecDepth 20000 in
theorem ggX4_quote_X4_isUnits : GoodIn wsX4_quote wsX4_isUnits := goodIn_r _ [29] (by decide +kernel) (by decide +kernel)
set_option maxRecDepth 20000 in
theorem gX4_quote_X4_isUnits : GoodIn wsX4_quote (va_wsS RX4 91 yX4_isUnits wsX4_isUnits) := goodIn_app (goodIn_of _ (by decide +kernel)) ggX4_quote_X4_isUnits
set_option maxRecDepth 20000 in
theorem ggX4_quote_X4_isCondition : GoodIn wsX4_quote wsX4_isCondition := goodIn_r _ [32] (by decide +kernel) (by decide +kernel)
set_option maxRecDepth 20000 in
theorem gX4_quote_X4_isCondition : GoodIn wsX4_quote (va_wsS RX4 150 yX4_isCondition wsX4_isCondition) := goodIn_app (goodIn_of _ (by decide +kernel)) ggX4_quote_X4_isCondition
set_option maxRecDepth 20000 in
theorem ggX4_quote_X4_canComeBack : GoodIn wsX4_quote wsX4_canComeBack := goodIn_r _ [36, 37, 38, 39, 40, 41, 8, 42, 43, 44, 80, 81, 82, 83, 84, 85, 86, 87, 88, 89, 90, 91, 92, 74, 75, 76, 77, 78, 79] (by decide +kernel) (by decide +kernel)
set_option maxRecDepth 20000 in
theorem gX4_quote_X4_canComeBack : GoodIn wsX4_quote (wsV RX4 155 RX4 yX4_canComeBack wsX4_canComeBack) := goodIn_app (goodIn_of _ (by decide +kernel)) ggX4_quote_X4_canComeBack
set_option maxRecDepth 20000 in
theorem ggX4_quote_X3_freedBy : GoodIn wsX4_quote wsX3_freedBy := goodIn_r _ [48, 49, 50, 51, 52, 53, 54, 55, 56, 57, 24, 58, 26, 59, 60, 61, 62, 63, 64, 65, 66, 8, 67, 68, 69, 70, 80, 81, 82, 83, 84, 85, 86, 87, 88, 89, 90, 91, 92] (by decide +kernel) (by decide +kernel)
set_option maxRecDepth 20000 in
theorem gX4_quote_X3_freedBy : GoodIn wsX4_quote (wsV RX4 196 RX3 yX3_freedBy wsX3_freedBy) := goodIn_app (goodIn_of _ (by decide +kernel)) ggX4_quote_X3_freedBy
set_option maxRecDepth 20000 in
theorem ggX4_quote_X4_ageOf : GoodIn wsX4_quote wsX4_ageOf := goodIn_r _ [42, 43, 44, 74, 75, 76, 77, 78, 79, 80, 81, 82, 83, 84, 85, 86, 87, 88] (by decide +kernel) (by decide +kernel)
set_option maxRecDepth 20000 in
theorem gX4_quote_X4_ageOf : GoodIn wsX4_quote (wsV RX4 173 RX4 yX4_ageOf wsX4_ageOf) := goodIn_app (goodIn_of _ (by decide +kernel)) ggX4_quote_X4_ageOf
set_option maxRecDepth 20000 in
theorem ggX4_quote_X4_feeOn : GoodIn wsX4_quote wsX4_feeOn := goodIn_r _ [73] (by decide +kernel) (by decide +kernel)
set_option maxRecDepth 20000 in
theorem gX4_quote_X4_feeOn : GoodIn wsX4_quote (va_wsS RX4 176 yX4_feeOn wsX4_feeOn) := goodIn_app (goodIn_of _ (by decide +kernel)) ggX4_quote_X4_feeOn
theorem dX4_quote_0 : decode cX4_quote 0 = .ok (.aload_n 0, 1) := by decide +kernel
theorem dX4_quote_1 : decode cX4_quote 1 = .ok (.iload_n 1, 1) := by decide +kernel
theorem dX4_quote_2 : decode cX4_quote 2 = .ok (.iload_n 2, 1) := by decide +kernel
theorem dX4_quote_3 : decode cX4_quote 3 = .ok (.invokevirtual 123, 3) := by decide +kernel
theorem dX4_quote_6 : decode cX4_quote 6 = .ok (.astore 5, 2) := by decide +kernel
theorem dX4_quote_8 : decode cX4_quote 8 = .ok (.aload_n 0, 1) := by decide +kernel
theorem dX4_quote_9 : decode cX4_quote 9 = .ok (.iload_n 1, 1) := by decide +kernel
theorem dX4_quote_10 : decode cX4_quote 10 = .ok (.invokevirtual 87, 3) := by decide +kernel
theorem dX4_quote_13 : decode cX4_quote 13 = .ok (.astore 6, 2) := by decide +kernel
theorem dX4_quote_15 : decode cX4_quote 15 = .ok (.iload_n 3, 1) := by decide +kernel
theorem dX4_quote_16 : decode cX4_quote 16 = .ok (.invokestatic 91, 3) := by decide +kernel
theorem dX4_quote_19 : decode cX4_quote 19 = .ok (.ifCond .eq 11, 3) := by decide +kernel
theorem dX4_quote_22 : decode cX4_quote 22 = .ok (.iload 4, 2) := by decide +kernel
theorem dX4_quote_24 : decode cX4_quote 24 = .ok (.invokestatic 150, 3) := by decide +kernel
theorem dX4_quote_27 : decode cX4_quote 27 = .ok (.ifCond .ne 13, 3) := by decide +kernel
theorem dX4_quote_30 : decode cX4_quote 30 = .ok (.new 38, 3) := by decide +kernel
theorem dX4_quote_33 : decode cX4_quote 33 = .ok (.dup, 1) := by decide +kernel
theorem dX4_quote_34 : decode cX4_quote 34 = .ok (.ldc 153, 2) := by decide +kernel
theorem dX4_quote_36 : decode cX4_quote 36 = .ok (.invokespecial 42, 3) := by decide +kernel
theorem dX4_quote_39 : decode cX4_quote 39 = .ok (.athrow, 1) := by decide +kernel
theorem dX4_quote_40 : decode cX4_quote 40 = .ok (.aload_n 0, 1) := by decide +kernel
theorem dX4_quote_41 : decode cX4_quote 41 = .ok (.aload 6, 2) := by decide +kernel
theorem dX4_quote_43 : decode cX4_quote 43 = .ok (.aload 5, 2) := by decide +kernel
theorem dX4_quote_45 : decode cX4_quote 45 = .ok (.iload_n 3, 1) := by decide +kernel
theorem dX4_quote_46 : decode cX4_quote 46 = .ok (.invokevirtual 155, 3) := by decide +kernel
theorem dX4_quote_49 : decode cX4_quote 49 = .ok (.ifCond .ne 13, 3) := by decide +kernel
theorem dX4_quote_52 : decode cX4_quote 52 = .ok (.new 60, 3) := by decide +kernel
theorem dX4_quote_55 : decode cX4_quote 55 = .ok (.dup, 1) := by decide +kernel
theorem dX4_quote_56 : decode cX4_quote 56 = .ok (.ldc 167, 2) := by decide +kernel
theorem dX4_quote_58 : decode cX4_quote 58 = .ok (.invokespecial 64, 3) := by decide +kernel
theorem dX4_quote_61 : decode cX4_quote 61 = .ok (.athrow, 1) := by decide +kernel
theorem dX4_quote_62 : decode cX4_quote 62 = .ok (.aload 6, 2) := by decide +kernel
theorem dX4_quote_64 : decode cX4_quote 64 = .ok (.aload 5, 2) := by decide +kernel
theorem dX4_quote_66 : decode cX4_quote 66 = .ok (.iload_n 3, 1) := by decide +kernel
theorem dX4_quote_67 : decode cX4_quote 67 = .ok (.invokevirtual 196, 3) := by decide +kernel
theorem dX4_quote_70 : decode cX4_quote 70 = .ok (.istore 7, 2) := by decide +kernel
theorem dX4_quote_72 : decode cX4_quote 72 = .ok (.iload 7, 2) := by decide +kernel
theorem dX4_quote_74 : decode cX4_quote 74 = .ok (.iload 7, 2) := by decide +kernel
theorem dX4_quote_76 : decode cX4_quote 76 = .ok (.aload_n 0, 1) := by decide +kernel
theorem dX4_quote_77 : decode cX4_quote 77 = .ok (.aload 6, 2) := by decide +kernel
theorem dX4_quote_79 : decode cX4_quote 79 = .ok (.invokevirtual 173, 3) := by decide +kernel
theorem dX4_quote_82 : decode cX4_quote 82 = .ok (.iload 4, 2) := by decide +kernel
theorem dX4_quote_84 : decode cX4_quote 84 = .ok (.invokestatic 176, 3) := by decide +kernel
theorem dX4_quote_87 : decode cX4_quote 87 = .ok (.isub, 1) := by decide +kernel
theorem dX4_quote_88 : decode cX4_quote 88 = .ok (.ireturn, 1) := by decide +kernel
set_option maxRecDepth 20000 in
theorem ggX4_released_X4_existingSale : GoodIn wsX4_released wsX4_existingSale := goodIn_ca (goodIn_r _ [6, 7, 8, 9, 10, 11, 5, 12, 13, 23, 24, 25, 26, 27, 28] (by decide +kernel) (by decide +kernel)) (goodIn_sub (fun _ h => List.mem_cons_of_mem _ (List.mem_append_right _ h)) (by decide +kernel))
set_option maxRecDepth 20000 in
theorem gX4_released_X4_existingSale : GoodIn wsX4_released (wsV RX4 87 RX4 yX4_existingSale wsX4_existingSale) := goodIn_app (goodIn_of _ (by decide +kernel)) ggX4_released_X4_existingSale
theorem dX4_released_0 : decode cX4_released 0 = .ok (.aload_n 0, 1) := by decide +kernel
theorem dX4_released_1 : decode cX4_released 1 = .ok (.iload_n 1, 1) := by decide +kernel
theorem dX4_released_2 : decode cX4_released 2 = .ok (.invokevirtual 87, 3) := by decide +kernel
theorem dX4_released_5 : decode cX4_released 5 = .ok (.getfield 200, 3) := by decide +kernel
theorem dX4_released_8 : decode cX4_released 8 = .ok (.ireturn, 1) := by decide +kernel
theorem dX4_fees_0 : decode cX4_fees 0 = .ok (.aload_n 0, 1) := by decide +kernel
theorem dX4_fees_1 : decode cX4_fees 1 = .ok (.getfield 180, 3) := by decide +kernel
theorem dX4_fees_4 : decode cX4_fees 4 = .ok (.ireturn, 1) := by decide +kernel
set_option maxRecDepth 20000 in
theorem ggX4_firstSale_X4_existingSale : GoodIn wsX4_firstSale wsX4_existingSale := goodIn_ca (goodIn_r _ [6, 7, 8, 9, 10, 11, 5, 12, 13, 23, 24, 25, 26, 27, 28] (by decide +kernel) (by decide +kernel)) (goodIn_sub (fun _ h => List.mem_cons_of_mem _ (List.mem_append_right _ h)) (by decide +kernel))
set_option maxRecDepth 20000 in
theorem gX4_firstSale_X4_existingSale : GoodIn wsX4_firstSale (wsV RX4 87 RX4 yX4_existingSale wsX4_existingSale) := goodIn_app (goodIn_of _ (by decide +kernel)) ggX4_firstSale_X4_existingSale
theorem dX4_firstSale_0 : decode cX4_firstSale 0 = .ok (.aload_n 0, 1) := by decide +kernel
theorem dX4_firstSale_1 : decode cX4_firstSale 1 = .ok (.iload_n 1, 1) := by decide +kernel
theorem dX4_firstSale_2 : decode cX4_firstSale 2 = .ok (.invokevirtual 87, 3) := by decide +kernel
theorem dX4_firstSale_5 : decode cX4_firstSale 5 = .ok (.getfield 190, 3) := by decide +kernel
theorem dX4_firstSale_8 : decode cX4_firstSale 8 = .ok (.ireturn, 1) := by decide +kernel
set_option maxRecDepth 20000 in
theorem ggX4_exchanges_X4_existingSale : GoodIn wsX4_exchanges wsX4_existingSale := goodIn_ca (goodIn_r _ [6, 7, 8, 9, 10, 11, 5, 12, 13, 23, 24, 25, 26, 27, 28] (by decide +kernel) (by decide +kernel)) (goodIn_sub (fun _ h => List.mem_cons_of_mem _ (List.mem_append_right _ h)) (by decide +kernel))
set_option maxRecDepth 20000 in
theorem gX4_exchanges_X4_existingSale : GoodIn wsX4_exchanges (wsV RX4 87 RX4 yX4_existingSale wsX4_existingSale) := goodIn_app (goodIn_of _ (by decide +kernel)) ggX4_exchanges_X4_existingSale
theorem dX4_exchanges_0 : decode cX4_exchanges 0 = .ok (.aload_n 0, 1) := by decide +kernel
theorem dX4_exchanges_1 : decode cX4_exchanges 1 = .ok (.iload_n 1, 1) := by decide +kernel
theorem dX4_exchanges_2 : decode cX4_exchanges 2 = .ok (.invokevirtual 87, 3) := by decide +kernel
theorem dX4_exchanges_5 : decode cX4_exchanges 5 = .ok (.getfield 187, 3) := by decide +kernel
theorem dX4_exchanges_8 : decode cX4_exchanges 8 = .ok (.ireturn, 1) := by decide +kernel
set_option maxRecDepth 20000 in
theorem ggX4_bestOption_X4_productAt : GoodIn wsX4_bestOption wsX4_productAt := goodIn_r _ [7, 8, 43, 44, 45, 46, 47, 48] (by decide +kernel) (by decide +kernel)
set_option maxRecDepth 20000 in
theorem gX4_bestOption_X4_productAt : GoodIn wsX4_bestOption (wsV RX4 29 RX4 yX4_productAt wsX4_productAt) := goodIn_app (goodIn_of _ (by decide +kernel)) ggX4_bestOption_X4_productAt
set_option maxRecDepth 20000 in
theorem ggX4_bestOption_X4_isCondition : GoodIn wsX4_bestOption wsX4_isCondition := goodIn_r _ [11] (by decide +kernel) (by decide +kernel)
set_option maxRecDepth 20000 in
theorem gX4_bestOption_X4_isCondition : GoodIn wsX4_bestOption (va_wsS RX4 150 yX4_isCondition wsX4_isCondition) := goodIn_app (goodIn_of _ (by decide +kernel)) ggX4_bestOption_X4_isCondition
set_option maxRecDepth 20000 in
theorem ggX4_bestOption_X2_optionFor : GoodIn wsX4_bestOption wsX2_optionFor := goodIn_r _ [16, 17, 18, 15, 19, 20, 21, 22, 23, 24, 25, 26, 27, 28, 29, 30, 31, 32, 33, 34, 35, 36, 37, 38, 39, 40, 41, 42, 49, 50, 51, 52] (by decide +kernel) (by decide +kernel)
set_option maxRecDepth 20000 in
theorem gX4_bestOption_X2_optionFor : GoodIn wsX4_bestOption (wsV RX4 203 RX2 yX2_optionFor wsX2_optionFor) := goodIn_app (goodIn_of _ (by decide +kernel)) ggX4_bestOption_X2_optionFor
theorem dX4_bestOption_0 : decode cX4_bestOption 0 = .ok (.aload_n 0, 1) := by decide +kernel
theorem dX4_bestOption_1 : decode cX4_bestOption 1 = .ok (.iload_n 1, 1) := by decide +kernel
theorem dX4_bestOption_2 : decode cX4_bestOption 2 = .ok (.invokevirtual 29, 3) := by decide +kernel
theorem dX4_bestOption_5 : decode cX4_bestOption 5 = .ok (.astore_n 3, 1) := by decide +kernel
theorem dX4_bestOption_6 : decode cX4_bestOption 6 = .ok (.aload_n 3, 1) := by decide +kernel
theorem dX4_bestOption_7 : decode cX4_bestOption 7 = .ok (.ifnull 10, 3) := by decide +kernel
theorem dX4_bestOption_10 : decode cX4_bestOption 10 = .ok (.iload_n 2, 1) := by decide +kernel
theorem dX4_bestOption_11 : decode cX4_bestOption 11 = .ok (.invokestatic 150, 3) := by decide +kernel
theorem dX4_bestOption_14 : decode cX4_bestOption 14 = .ok (.ifCond .ne 13, 3) := by decide +kernel
theorem dX4_bestOption_17 : decode cX4_bestOption 17 = .ok (.new 38, 3) := by decide +kernel
theorem dX4_bestOption_20 : decode cX4_bestOption 20 = .ok (.dup, 1) := by decide +kernel
theorem dX4_bestOption_21 : decode cX4_bestOption 21 = .ok (.ldc 40, 2) := by decide +kernel
theorem dX4_bestOption_23 : decode cX4_bestOption 23 = .ok (.invokespecial 42, 3) := by decide +kernel
theorem dX4_bestOption_26 : decode cX4_bestOption 26 = .ok (.athrow, 1) := by decide +kernel
theorem dX4_bestOption_27 : decode cX4_bestOption 27 = .ok (.aload_n 3, 1) := by decide +kernel
theorem dX4_bestOption_28 : decode cX4_bestOption 28 = .ok (.iload_n 2, 1) := by decide +kernel
theorem dX4_bestOption_29 : decode cX4_bestOption 29 = .ok (.invokevirtual 203, 3) := by decide +kernel
theorem dX4_bestOption_32 : decode cX4_bestOption 32 = .ok (.ireturn, 1) := by decide +kernel
set_option maxRecDepth 20000 in
theorem ggX4_bestWorth_X4_productAt : GoodIn wsX4_bestWorth wsX4_productAt := goodIn_r _ [7, 8, 44, 45, 46, 47, 48, 49] (by decide +kernel) (by decide +kernel)
set_option maxRecDepth 20000 in
theorem gX4_bestWorth_X4_productAt : GoodIn wsX4_bestWorth (wsV RX4 29 RX4 yX4_productAt wsX4_productAt) := goodIn_app (goodIn_of _ (by decide +kernel)) ggX4_bestWorth_X4_productAt
set_option maxRecDepth 20000 in
theorem ggX4_bestWorth_X4_isCondition : GoodIn wsX4_bestWorth wsX4_isCondition := goodIn_r _ [11] (by decide +kernel) (by decide +kernel)
set_option maxRecDepth 20000 in
theorem gX4_bestWorth_X4_isCondition : GoodIn wsX4_bestWorth (va_wsS RX4 150 yX4_isCondition wsX4_isCondition) := goodIn_app (goodIn_of _ (by decide +kernel)) ggX4_bestWorth_X4_isCondition
set_option maxRecDepth 20000 in
theorem ggX4_bestWorth_X2_optionFor : GoodIn wsX4_bestWorth wsX2_optionFor := goodIn_r _ [16, 17, 18, 15, 19, 20, 21, 22, 23, 24, 25, 26, 27, 28, 29, 30, 31, 32, 33, 34, 35, 36, 37, 38, 39, 40, 41, 42, 50, 51, 52, 53] (by decide +kernel) (by decide +kernel)
set_option maxRecDepth 20000 in
theorem gX4_bestWorth_X2_optionFor : GoodIn wsX4_bestWorth (wsV RX4 203 RX2 yX2_optionFor wsX2_optionFor) := goodIn_app (goodIn_of _ (by decide +kernel)) ggX4_bestWorth_X2_optionFor
set_option maxRecDepth 20000 in
theorem ggX4_bestWorth_X2_worthOf : GoodIn wsX4_bestWorth wsX2_worthOf := goodIn_r _ [23, 24, 25, 26, 27, 28, 29, 30, 31, 15, 32, 33, 34, 35, 36, 37, 38, 39, 40, 41, 42, 50, 51, 52, 53] (by decide +kernel) (by decide +kernel)
set_option maxRecDepth 20000 in
theorem gX4_bestWorth_X2_worthOf : GoodIn wsX4_bestWorth (wsV RX4 206 RX2 yX2_worthOf wsX2_worthOf) := goodIn_app (goodIn_of _ (by decide +kernel)) ggX4_bestWorth_X2_worthOf
theorem dX4_bestWorth_0 : decode cX4_bestWorth 0 = .ok (.aload_n 0, 1) := by decide +kernel
theorem dX4_bestWorth_1 : decode cX4_bestWorth 1 = .ok (.iload_n 1, 1) := by decide +kernel
theorem dX4_bestWorth_2 : decode cX4_bestWorth 2 = .ok (.invokevirtual 29, 3) := by decide +kernel
theorem dX4_bestWorth_5 : decode cX4_bestWorth 5 = .ok (.astore_n 3, 1) := by decide +kernel
theorem dX4_bestWorth_6 : decode cX4_bestWorth 6 = .ok (.aload_n 3, 1) := by decide +kernel
theorem dX4_bestWorth_7 : decode cX4_bestWorth 7 = .ok (.ifnull 10, 3) := by decide +kernel
theorem dX4_bestWorth_10 : decode cX4_bestWorth 10 = .ok (.iload_n 2, 1) := by decide +kernel
theorem dX4_bestWorth_11 : decode cX4_bestWorth 11 = .ok (.invokestatic 150, 3) := by decide +kernel
theorem dX4_bestWorth_14 : decode cX4_bestWorth 14 = .ok (.ifCond .ne 13, 3) := by decide +kernel
theorem dX4_bestWorth_17 : decode cX4_bestWorth 17 = .ok (.new 38, 3) := by decide +kernel
theorem dX4_bestWorth_20 : decode cX4_bestWorth 20 = .ok (.dup, 1) := by decide +kernel
theorem dX4_bestWorth_21 : decode cX4_bestWorth 21 = .ok (.ldc 40, 2) := by decide +kernel
theorem dX4_bestWorth_23 : decode cX4_bestWorth 23 = .ok (.invokespecial 42, 3) := by decide +kernel
theorem dX4_bestWorth_26 : decode cX4_bestWorth 26 = .ok (.athrow, 1) := by decide +kernel
theorem dX4_bestWorth_27 : decode cX4_bestWorth 27 = .ok (.aload_n 3, 1) := by decide +kernel
theorem dX4_bestWorth_28 : decode cX4_bestWorth 28 = .ok (.aload_n 3, 1) := by decide +kernel
theorem dX4_bestWorth_29 : decode cX4_bestWorth 29 = .ok (.iload_n 2, 1) := by decide +kernel
theorem dX4_bestWorth_30 : decode cX4_bestWorth 30 = .ok (.invokevirtual 203, 3) := by decide +kernel
theorem dX4_bestWorth_33 : decode cX4_bestWorth 33 = .ok (.iload_n 2, 1) := by decide +kernel
theorem dX4_bestWorth_34 : decode cX4_bestWorth 34 = .ok (.invokevirtual 206, 3) := by decide +kernel
theorem dX4_bestWorth_37 : decode cX4_bestWorth 37 = .ok (.ireturn, 1) := by decide +kernel
set_option maxRecDepth 20000 in
theorem ggX4_stock_X4_productAt : GoodIn wsX4_stock wsX4_productAt := goodIn_r _ [7, 8, 15, 16, 17, 18, 19, 20] (by decide +kernel) (by decide +kernel)
set_option maxRecDepth 20000 in
theorem gX4_stock_X4_productAt : GoodIn wsX4_stock (wsV RX4 29 RX4 yX4_productAt wsX4_productAt) := goodIn_app (goodIn_of _ (by decide +kernel)) ggX4_stock_X4_productAt
set_option maxRecDepth 20000 in
theorem ggX4_stock_X2_unitsAt : GoodIn wsX4_stock wsX2_unitsAt := goodIn_r _ [13, 14, 21, 22, 23, 24] (by decide +kernel) (by decide +kernel)
set_option maxRecDepth 20000 in
theorem gX4_stock_X2_unitsAt : GoodIn wsX4_stock (wsV RX4 210 RX2 yX2_unitsAt wsX2_unitsAt) := goodIn_app (goodIn_of _ (by decide +kernel)) ggX4_stock_X2_unitsAt
theorem dX4_stock_0 : decode cX4_stock 0 = .ok (.aload_n 0, 1) := by decide +kernel
theorem dX4_stock_1 : decode cX4_stock 1 = .ok (.iload_n 1, 1) := by decide +kernel
theorem dX4_stock_2 : decode cX4_stock 2 = .ok (.invokevirtual 29, 3) := by decide +kernel
theorem dX4_stock_5 : decode cX4_stock 5 = .ok (.astore_n 3, 1) := by decide +kernel
theorem dX4_stock_6 : decode cX4_stock 6 = .ok (.aload_n 3, 1) := by decide +kernel
theorem dX4_stock_7 : decode cX4_stock 7 = .ok (.ifnull 12, 3) := by decide +kernel
theorem dX4_stock_10 : decode cX4_stock 10 = .ok (.iload_n 2, 1) := by decide +kernel
theorem dX4_stock_11 : decode cX4_stock 11 = .ok (.ifCond .lt 8, 3) := by decide +kernel
theorem dX4_stock_14 : decode cX4_stock 14 = .ok (.iload_n 2, 1) := by decide +kernel
theorem dX4_stock_15 : decode cX4_stock 15 = .ok (.iconst 5, 1) := by decide +kernel
theorem dX4_stock_16 : decode cX4_stock 16 = .ok (.if_icmp .lt 13, 3) := by decide +kernel
theorem dX4_stock_19 : decode cX4_stock 19 = .ok (.new 38, 3) := by decide +kernel
theorem dX4_stock_22 : decode cX4_stock 22 = .ok (.dup, 1) := by decide +kernel
theorem dX4_stock_23 : decode cX4_stock 23 = .ok (.ldc 40, 2) := by decide +kernel
theorem dX4_stock_25 : decode cX4_stock 25 = .ok (.invokespecial 42, 3) := by decide +kernel
theorem dX4_stock_28 : decode cX4_stock 28 = .ok (.athrow, 1) := by decide +kernel
theorem dX4_stock_29 : decode cX4_stock 29 = .ok (.aload_n 3, 1) := by decide +kernel
theorem dX4_stock_30 : decode cX4_stock 30 = .ok (.iload_n 2, 1) := by decide +kernel
theorem dX4_stock_31 : decode cX4_stock 31 = .ok (.invokevirtual 210, 3) := by decide +kernel
theorem dX4_stock_34 : decode cX4_stock 34 = .ok (.ireturn, 1) := by decide +kernel
set_option maxRecDepth 20000 in
theorem ggX4_test_X4_productAt : GoodIn wsX4_test wsX4_productAt := goodIn_r _ [9, 10, 51, 52, 53, 54, 55, 56] (by decide +kernel) (by decide +kernel)
set_option maxRecDepth 20000 in
theorem gX4_test_X4_productAt : GoodIn wsX4_test (wsV RX4 29 RX4 yX4_productAt wsX4_productAt) := goodIn_app (goodIn_of _ (by decide +kernel)) ggX4_test_X4_productAt
set_option maxRecDepth 20000 in
theorem ggX4_test_X2_unitsAt : GoodIn wsX4_test wsX2_unitsAt := goodIn_r _ [15, 16, 57, 58, 59, 60] (by decide +kernel) (by decide +kernel)
set_option maxRecDepth 20000 in
theorem gX4_test_X2_unitsAt : GoodIn wsX4_test (wsV RX4 210 RX2 yX2_unitsAt wsX2_unitsAt) := goodIn_app (goodIn_of _ (by decide +kernel)) ggX4_test_X2_unitsAt
set_option maxRecDepth 20000 in
theorem ggX4_test_X2_optionFor : GoodIn wsX4_test wsX2_optionFor := goodIn_r _ [20, 21, 22, 14, 23, 24, 25, 26, 27, 28, 29, 30, 31, 32, 33, 34, 35, 36, 37, 38, 39, 40, 41, 42, 43, 44, 45, 46, 57, 58, 59, 60] (by decide +kernel) (by decide +kernel)
set_option maxRecDepth 20000 in
theorem gX4_test_X2_optionFor : GoodIn wsX4_test (wsV RX4 203 RX2 yX2_optionFor wsX2_optionFor) := goodIn_app (goodIn_of _ (by decide +kernel)) ggX4_test_X2_optionFor
set_option maxRecDepth 20000 in
theorem ggX4_test_X2_move : GoodIn wsX4_test wsX2_move := goodIn_r _ [50, 16, 57, 58, 59, 60] (by decide +kernel) (by decide +kernel)
set_option maxRecDepth 20000 in
theorem gX4_test_X2_move : GoodIn wsX4_test (wsV RX4 217 RX2 yX2_move wsX2_move) := goodIn_app (goodIn_of _ (by decide +kernel)) ggX4_test_X2_move
theorem dX4_test_0 : decode cX4_test 0 = .ok (.aload_n 0, 1) := by decide +kernel
theorem dX4_test_1 : decode cX4_test 1 = .ok (.iload_n 1, 1) := by decide +kernel
theorem dX4_test_2 : decode cX4_test 2 = .ok (.invokevirtual 29, 3) := by decide +kernel
theorem dX4_test_5 : decode cX4_test 5 = .ok (.astore_n 3, 1) := by decide +kernel
theorem dX4_test_6 : decode cX4_test 6 = .ok (.aload_n 3, 1) := by decide +kernel
theorem dX4_test_7 : decode cX4_test 7 = .ok (.ifnonnull 13, 3) := by decide +kernel
theorem dX4_test_10 : decode cX4_test 10 = .ok (.new 38, 3) := by decide +kernel
theorem dX4_test_13 : decode cX4_test 13 = .ok (.dup, 1) := by decide +kernel
theorem dX4_test_14 : decode cX4_test 14 = .ok (.ldc 213, 2) := by decide +kernel
theorem dX4_test_16 : decode cX4_test 16 = .ok (.invokespecial 42, 3) := by decide +kernel
theorem dX4_test_19 : decode cX4_test 19 = .ok (.athrow, 1) := by decide +kernel
theorem dX4_test_20 : decode cX4_test 20 = .ok (.aload_n 3, 1) := by decide +kernel
theorem dX4_test_21 : decode cX4_test 21 = .ok (.iconst 1, 1) := by decide +kernel
theorem dX4_test_22 : decode cX4_test 22 = .ok (.invokevirtual 210, 3) := by decide +kernel
theorem dX4_test_25 : decode cX4_test 25 = .ok (.ifCond .ne 13, 3) := by decide +kernel
theorem dX4_test_28 : decode cX4_test 28 = .ok (.new 60, 3) := by decide +kernel
theorem dX4_test_31 : decode cX4_test 31 = .ok (.dup, 1) := by decide +kernel
theorem dX4_test_32 : decode cX4_test 32 = .ok (.ldc 215, 2) := by decide +kernel
theorem dX4_test_34 : decode cX4_test 34 = .ok (.invokespecial 64, 3) := by decide +kernel
theorem dX4_test_37 : decode cX4_test 37 = .ok (.athrow, 1) := by decide +kernel
theorem dX4_test_38 : decode cX4_test 38 = .ok (.iload_n 2, 1) := by decide +kernel
theorem dX4_test_39 : decode cX4_test 39 = .ok (.ifCond .eq 7, 3) := by decide +kernel
theorem dX4_test_42 : decode cX4_test 42 = .ok (.iconst 0, 1) := by decide +kernel
theorem dX4_test_43 : decode cX4_test 43 = .ok (.goto 8, 3) := by decide +kernel
theorem dX4_test_46 : decode cX4_test 46 = .ok (.aload_n 3, 1) := by decide +kernel
theorem dX4_test_47 : decode cX4_test 47 = .ok (.iconst 2, 1) := by decide +kernel
theorem dX4_test_48 : decode cX4_test 48 = .ok (.invokevirtual 203, 3) := by decide +kernel
theorem dX4_test_51 : decode cX4_test 51 = .ok (.istore 4, 2) := by decide +kernel
theorem dX4_test_53 : decode cX4_test 53 = .ok (.aload_n 3, 1) := by decide +kernel
theorem dX4_test_54 : decode cX4_test 54 = .ok (.iconst 1, 1) := by decide +kernel
theorem dX4_test_55 : decode cX4_test 55 = .ok (.iconst (-1), 1) := by decide +kernel
theorem dX4_test_56 : decode cX4_test 56 = .ok (.invokevirtual 217, 3) := by decide +kernel
theorem dX4_test_59 : decode cX4_test 59 = .ok (.aload_n 3, 1) := by decide +kernel
theorem dX4_test_60 : decode cX4_test 60 = .ok (.iload 4, 2) := by decide +kernel
theorem dX4_test_62 : decode cX4_test 62 = .ok (.iconst 1, 1) := by decide +kernel
theorem dX4_test_63 : decode cX4_test 63 = .ok (.invokevirtual 217, 3) := by decide +kernel
theorem dX4_test_66 : decode cX4_test 66 = .ok (.iload 4, 2) := by decide +kernel
theorem dX4_test_68 : decode cX4_test 68 = .ok (.ireturn, 1) := by decide +kernel
set_option maxRecDepth 20000 in
theorem ggX4_score_X4_customerAt : GoodIn wsX4_score wsX4_customerAt := goodIn_r _ [8, 9, 19, 20, 21, 22, 23, 24] (by decide +kernel) (by decide +kernel)
set_option maxRecDepth 20000 in
theorem gX4_score_X4_customerAt : GoodIn wsX4_score (wsV RX4 65 RX4 yX4_customerAt wsX4_customerAt) := goodIn_app (goodIn_of _ (by decide +kernel)) ggX4_score_X4_customerAt
set_option maxRecDepth 20000 in
theorem ggX4_score_X0_scoreOn : GoodIn wsX4_score wsX0_scoreOn := goodIn_r _ [14, 15, 16, 17, 18, 25, 26, 27, 28] (by decide +kernel) (by decide +kernel)
set_option maxRecDepth 20000 in
theorem gX4_score_X0_scoreOn : GoodIn wsX4_score (wsV RX4 221 RX0 yX0_scoreOn wsX0_scoreOn) := goodIn_app (goodIn_of _ (by decide +kernel)) ggX4_score_X0_scoreOn
theorem dX4_score_0 : decode cX4_score 0 = .ok (.aload_n 0, 1) := by decide +kernel
theorem dX4_score_1 : decode cX4_score 1 = .ok (.iload_n 1, 1) := by decide +kernel
theorem dX4_score_2 : decode cX4_score 2 = .ok (.invokevirtual 65, 3) := by decide +kernel
theorem dX4_score_5 : decode cX4_score 5 = .ok (.astore_n 2, 1) := by decide +kernel
theorem dX4_score_6 : decode cX4_score 6 = .ok (.aload_n 2, 1) := by decide +kernel
theorem dX4_score_7 : decode cX4_score 7 = .ok (.ifnonnull 13, 3) := by decide +kernel
theorem dX4_score_10 : decode cX4_score 10 = .ok (.new 38, 3) := by decide +kernel
theorem dX4_score_13 : decode cX4_score 13 = .ok (.dup, 1) := by decide +kernel
theorem dX4_score_14 : decode cX4_score 14 = .ok (.ldc 69, 2) := by decide +kernel
theorem dX4_score_16 : decode cX4_score 16 = .ok (.invokespecial 42, 3) := by decide +kernel
theorem dX4_score_19 : decode cX4_score 19 = .ok (.athrow, 1) := by decide +kernel
theorem dX4_score_20 : decode cX4_score 20 = .ok (.aload_n 2, 1) := by decide +kernel
theorem dX4_score_21 : decode cX4_score 21 = .ok (.aload_n 0, 1) := by decide +kernel
theorem dX4_score_22 : decode cX4_score 22 = .ok (.getfield 57, 3) := by decide +kernel
theorem dX4_score_25 : decode cX4_score 25 = .ok (.invokevirtual 221, 3) := by decide +kernel
theorem dX4_score_28 : decode cX4_score 28 = .ok (.ireturn, 1) := by decide +kernel
theorem dX4_productAt_0 : decode cX4_productAt 0 = .ok (.iload_n 1, 1) := by decide +kernel
theorem dX4_productAt_1 : decode cX4_productAt 1 = .ok (.ifCond .lt 21, 3) := by decide +kernel
theorem dX4_productAt_4 : decode cX4_productAt 4 = .ok (.iload_n 1, 1) := by decide +kernel
theorem dX4_productAt_5 : decode cX4_productAt 5 = .ok (.aload_n 0, 1) := by decide +kernel
theorem dX4_productAt_6 : decode cX4_productAt 6 = .ok (.getfield 11, 3) := by decide +kernel
theorem dX4_productAt_9 : decode cX4_productAt 9 = .ok (.arraylength, 1) := by decide +kernel
theorem dX4_productAt_10 : decode cX4_productAt 10 = .ok (.if_icmp .ge 12, 3) := by decide +kernel
theorem dX4_productAt_13 : decode cX4_productAt 13 = .ok (.aload_n 0, 1) := by decide +kernel
theorem dX4_productAt_14 : decode cX4_productAt 14 = .ok (.getfield 11, 3) := by decide +kernel
theorem dX4_productAt_17 : decode cX4_productAt 17 = .ok (.iload_n 1, 1) := by decide +kernel
theorem dX4_productAt_18 : decode cX4_productAt 18 = .ok (.aaload, 1) := by decide +kernel
theorem dX4_productAt_19 : decode cX4_productAt 19 = .ok (.goto 4, 3) := by decide +kernel
theorem dX4_productAt_22 : decode cX4_productAt 22 = .ok (.aconst_null, 1) := by decide +kernel
theorem dX4_productAt_23 : decode cX4_productAt 23 = .ok (.areturn, 1) := by decide +kernel
theorem dX4_customerAt_0 : decode cX4_customerAt 0 = .ok (.iload_n 1, 1) := by decide +kernel
theorem dX4_customerAt_1 : decode cX4_customerAt 1 = .ok (.ifCond .lt 21, 3) := by decide +kernel
theorem dX4_customerAt_4 : decode cX4_customerAt 4 = .ok (.iload_n 1, 1) := by decide +kernel
theorem dX4_customerAt_5 : decode cX4_customerAt 5 = .ok (.aload_n 0, 1) := by decide +kernel
theorem dX4_customerAt_6 : decode cX4_customerAt 6 = .ok (.getfield 18, 3) := by decide +kernel
theorem dX4_customerAt_9 : decode cX4_customerAt 9 = .ok (.arraylength, 1) := by decide +kernel
theorem dX4_customerAt_10 : decode cX4_customerAt 10 = .ok (.if_icmp .ge 12, 3) := by decide +kernel
theorem dX4_customerAt_13 : decode cX4_customerAt 13 = .ok (.aload_n 0, 1) := by decide +kernel
theorem dX4_customerAt_14 : decode cX4_customerAt 14 = .ok (.getfield 18, 3) := by decide +kernel
theorem dX4_customerAt_17 : decode cX4_customerAt 17 = .ok (.iload_n 1, 1) := by decide +kernel
theorem dX4_customerAt_18 : decode cX4_customerAt 18 = .ok (.aaload, 1) := by decide +kernel
theorem dX4_customerAt_19 : decode cX4_customerAt 19 = .ok (.goto 4, 3) := by decide +kernel
theorem dX4_customerAt_22 : decode cX4_customerAt 22 = .ok (.aconst_null, 1) := by decide +kernel
theorem dX4_customerAt_23 : decode cX4_customerAt 23 = .ok (.areturn, 1) := by decide +kernel
theorem dX4_saleAt_0 : decode cX4_saleAt 0 = .ok (.iload_n 1, 1) := by decide +kernel
theorem dX4_saleAt_1 : decode cX4_saleAt 1 = .ok (.ifCond .lt 21, 3) := by decide +kernel
theorem dX4_saleAt_4 : decode cX4_saleAt 4 = .ok (.iload_n 1, 1) := by decide +kernel
theorem dX4_saleAt_5 : decode cX4_saleAt 5 = .ok (.aload_n 0, 1) := by decide +kernel
theorem dX4_saleAt_6 : decode cX4_saleAt 6 = .ok (.getfield 25, 3) := by decide +kernel
theorem dX4_saleAt_9 : decode cX4_saleAt 9 = .ok (.arraylength, 1) := by decide +kernel
theorem dX4_saleAt_10 : decode cX4_saleAt 10 = .ok (.if_icmp .ge 12, 3) := by decide +kernel
theorem dX4_saleAt_13 : decode cX4_saleAt 13 = .ok (.aload_n 0, 1) := by decide +kernel
theorem dX4_saleAt_14 : decode cX4_saleAt 14 = .ok (.getfield 25, 3) := by decide +kernel
theorem dX4_saleAt_17 : decode cX4_saleAt 17 = .ok (.iload_n 1, 1) := by decide +kernel
theorem dX4_saleAt_18 : decode cX4_saleAt 18 = .ok (.aaload, 1) := by decide +kernel
theorem dX4_saleAt_19 : decode cX4_saleAt 19 = .ok (.goto 4, 3) := by decide +kernel
theorem dX4_saleAt_22 : decode cX4_saleAt 22 = .ok (.aconst_null, 1) := by decide +kernel
theorem dX4_saleAt_23 : decode cX4_saleAt 23 = .ok (.areturn, 1) := by decide +kernel
set_option maxRecDepth 20000 in
theorem ggX4_existingSale_X4_saleAt : GoodIn wsX4_existingSale wsX4_saleAt := goodIn_r _ [7, 8, 9, 10, 11, 12, 13, 14] (by decide +kernel) (by decide +kernel)
set_option maxRecDepth 20000 in
theorem gX4_existingSale_X4_saleAt : GoodIn wsX4_existingSale (wsV RX4 224 RX4 yX4_saleAt wsX4_saleAt) := goodIn_app (goodIn_of _ (by decide +kernel)) ggX4_existingSale_X4_saleAt
theorem dX4_existingSale_0 : decode cX4_existingSale 0 = .ok (.aload_n 0, 1) := by decide +kernel
theorem dX4_existingSale_1 : decode cX4_existingSale 1 = .ok (.iload_n 1, 1) := by decide +kernel
theorem dX4_existingSale_2 : decode cX4_existingSale 2 = .ok (.invokevirtual 224, 3) := by decide +kernel
theorem dX4_existingSale_5 : decode cX4_existingSale 5 = .ok (.astore_n 2, 1) := by decide +kernel
theorem dX4_existingSale_6 : decode cX4_existingSale 6 = .ok (.aload_n 2, 1) := by decide +kernel
theorem dX4_existingSale_7 : decode cX4_existingSale 7 = .ok (.ifnonnull 13, 3) := by decide +kernel
theorem dX4_existingSale_10 : decode cX4_existingSale 10 = .ok (.new 142, 3) := by decide +kernel
theorem dX4_existingSale_13 : decode cX4_existingSale 13 = .ok (.dup, 1) := by decide +kernel
theorem dX4_existingSale_14 : decode cX4_existingSale 14 = .ok (.ldc 227, 2) := by decide +kernel
theorem dX4_existingSale_16 : decode cX4_existingSale 16 = .ok (.invokespecial 146, 3) := by decide +kernel
theorem dX4_existingSale_19 : decode cX4_existingSale 19 = .ok (.athrow, 1) := by decide +kernel
theorem dX4_existingSale_20 : decode cX4_existingSale 20 = .ok (.aload_n 2, 1) := by decide +kernel
theorem dX4_existingSale_21 : decode cX4_existingSale 21 = .ok (.areturn, 1) := by decide +kernel
set_option maxRecDepth 20000 in
theorem ggX4_existingLine_X4_existingSale : GoodIn wsX4_existingLine wsX4_existingSale := goodIn_ca (goodIn_r _ [7, 1, 2, 8, 9, 10, 6, 11, 12, 19, 20, 21, 22, 23, 24] (by decide +kernel) (by decide +kernel)) (goodIn_sub (fun _ h => List.mem_cons_of_mem _ (List.mem_append_right _ h)) (by decide +kernel))
set_option maxRecDepth 20000 in
theorem gX4_existingLine_X4_existingSale : GoodIn wsX4_existingLine (wsV RX4 87 RX4 yX4_existingSale wsX4_existingSale) := goodIn_app (goodIn_of _ (by decide +kernel)) ggX4_existingLine_X4_existingSale
set_option maxRecDepth 20000 in
theorem ggX4_existingLine_X3_lineAt : GoodIn wsX4_existingLine wsX3_lineAt := goodIn_r _ [17, 18, 25, 26, 27, 28, 29, 30, 31, 32, 33] (by decide +kernel) (by decide +kernel)
set_option maxRecDepth 20000 in
theorem gX4_existingLine_X3_lineAt : GoodIn wsX4_existingLine (wsV RX4 138 RX3 yX3_lineAt wsX3_lineAt) := goodIn_app (goodIn_of _ (by decide +kernel)) ggX4_existingLine_X3_lineAt
theorem dX4_existingLine_0 : decode cX4_existingLine 0 = .ok (.aload_n 0, 1) := by decide +kernel
theorem dX4_existingLine_1 : decode cX4_existingLine 1 = .ok (.iload_n 1, 1) := by decide +kernel
theorem dX4_existingLine_2 : decode cX4_existingLine 2 = .ok (.invokevirtual 87, 3) := by decide +kernel
theorem dX4_existingLine_5 : decode cX4_existingLine 5 = .ok (.iload_n 2, 1) := by decide +kernel
theorem dX4_existingLine_6 : decode cX4_existingLine 6 = .ok (.invokevirtual 138, 3) := by decide +kernel
theorem dX4_existingLine_9 : decode cX4_existingLine 9 = .ok (.astore_n 3, 1) := by decide +kernel
theorem dX4_existingLine_10 : decode cX4_existingLine 10 = .ok (.aload_n 3, 1) := by decide +kernel
theorem dX4_existingLine_11 : decode cX4_existingLine 11 = .ok (.ifnonnull 13, 3) := by decide +kernel
theorem dX4_existingLine_14 : decode cX4_existingLine 14 = .ok (.new 142, 3) := by decide +kernel
theorem dX4_existingLine_17 : decode cX4_existingLine 17 = .ok (.dup, 1) := by decide +kernel
theorem dX4_existingLine_18 : decode cX4_existingLine 18 = .ok (.ldc 144, 2) := by decide +kernel
theorem dX4_existingLine_20 : decode cX4_existingLine 20 = .ok (.invokespecial 146, 3) := by decide +kernel
theorem dX4_existingLine_23 : decode cX4_existingLine 23 = .ok (.athrow, 1) := by decide +kernel
theorem dX4_existingLine_24 : decode cX4_existingLine 24 = .ok (.aload_n 3, 1) := by decide +kernel
theorem dX4_existingLine_25 : decode cX4_existingLine 25 = .ok (.areturn, 1) := by decide +kernel
theorem dX4_isRegisterFull_0 : decode cX4_isRegisterFull 0 = .ok (.aload_n 0, 1) := by decide +kernel
theorem dX4_isRegisterFull_1 : decode cX4_isRegisterFull 1 = .ok (.getfield 77, 3) := by decide +kernel
theorem dX4_isRegisterFull_4 : decode cX4_isRegisterFull 4 = .ok (.aload_n 0, 1) := by decide +kernel
theorem dX4_isRegisterFull_5 : decode cX4_isRegisterFull 5 = .ok (.getfield 25, 3) := by decide +kernel
theorem dX4_isRegisterFull_8 : decode cX4_isRegisterFull 8 = .ok (.arraylength, 1) := by decide +kernel
theorem dX4_isRegisterFull_9 : decode cX4_isRegisterFull 9 = .ok (.if_icmp .lt 7, 3) := by decide +kernel
theorem dX4_isRegisterFull_12 : decode cX4_isRegisterFull 12 = .ok (.iconst 1, 1) := by decide +kernel
theorem dX4_isRegisterFull_13 : decode cX4_isRegisterFull 13 = .ok (.goto 4, 3) := by decide +kernel
theorem dX4_isRegisterFull_16 : decode cX4_isRegisterFull 16 = .ok (.iconst 0, 1) := by decide +kernel
theorem dX4_isRegisterFull_17 : decode cX4_isRegisterFull 17 = .ok (.ireturn, 1) := by decide +kernel
theorem dX4_enter_0 : decode cX4_enter 0 = .ok (.aload_n 0, 1) := by decide +kernel
theorem dX4_enter_1 : decode cX4_enter 1 = .ok (.getfield 77, 3) := by decide +kernel
theorem dX4_enter_4 : decode cX4_enter 4 = .ok (.istore_n 2, 1) := by decide +kernel
theorem dX4_enter_5 : decode cX4_enter 5 = .ok (.iload_n 2, 1) := by decide +kernel
theorem dX4_enter_6 : decode cX4_enter 6 = .ok (.ifCond .lt 29, 3) := by decide +kernel
theorem dX4_enter_9 : decode cX4_enter 9 = .ok (.iload_n 2, 1) := by decide +kernel
theorem dX4_enter_10 : decode cX4_enter 10 = .ok (.aload_n 0, 1) := by decide +kernel
theorem dX4_enter_11 : decode cX4_enter 11 = .ok (.getfield 25, 3) := by decide +kernel
theorem dX4_enter_14 : decode cX4_enter 14 = .ok (.arraylength, 1) := by decide +kernel
theorem dX4_enter_15 : decode cX4_enter 15 = .ok (.if_icmp .ge 20, 3) := by decide +kernel
theorem dX4_enter_18 : decode cX4_enter 18 = .ok (.aload_n 0, 1) := by decide +kernel
theorem dX4_enter_19 : decode cX4_enter 19 = .ok (.getfield 25, 3) := by decide +kernel
theorem dX4_enter_22 : decode cX4_enter 22 = .ok (.iload_n 2, 1) := by decide +kernel
theorem dX4_enter_23 : decode cX4_enter 23 = .ok (.aload_n 1, 1) := by decide +kernel
theorem dX4_enter_24 : decode cX4_enter 24 = .ok (.aastore, 1) := by decide +kernel
theorem dX4_enter_25 : decode cX4_enter 25 = .ok (.aload_n 0, 1) := by decide +kernel
theorem dX4_enter_26 : decode cX4_enter 26 = .ok (.dup, 1) := by decide +kernel
theorem dX4_enter_27 : decode cX4_enter 27 = .ok (.getfield 77, 3) := by decide +kernel
theorem dX4_enter_30 : decode cX4_enter 30 = .ok (.iconst 1, 1) := by decide +kernel
theorem dX4_enter_31 : decode cX4_enter 31 = .ok (.iadd, 1) := by decide +kernel
theorem dX4_enter_32 : decode cX4_enter 32 = .ok (.putfield 77, 3) := by decide +kernel
theorem dX4_enter_35 : decode cX4_enter 35 = .ok (.iload_n 2, 1) := by decide +kernel
theorem dX4_enter_36 : decode cX4_enter 36 = .ok (.ireturn, 1) := by decide +kernel
theorem dX4_ageOf_0 : decode cX4_ageOf 0 = .ok (.aload_n 0, 1) := by decide +kernel
theorem dX4_ageOf_1 : decode cX4_ageOf 1 = .ok (.getfield 57, 3) := by decide +kernel
theorem dX4_ageOf_4 : decode cX4_ageOf 4 = .ok (.aload_n 1, 1) := by decide +kernel
theorem dX4_ageOf_5 : decode cX4_ageOf 5 = .ok (.getfield 193, 3) := by decide +kernel
theorem dX4_ageOf_8 : decode cX4_ageOf 8 = .ok (.isub, 1) := by decide +kernel
theorem dX4_ageOf_9 : decode cX4_ageOf 9 = .ok (.ireturn, 1) := by decide +kernel
set_option maxRecDepth 20000 in
theorem ggX4_canComeBack_X4_ageOf : GoodIn wsX4_canComeBack wsX4_ageOf := goodIn_r _ [7, 8, 9, 23, 24, 25, 26, 27, 28, 10, 11, 12, 13, 14, 15, 16, 17, 18] (by decide +kernel) (by decide +kernel)
set_option maxRecDepth 20000 in
theorem gX4_canComeBack_X4_ageOf : GoodIn wsX4_canComeBack (wsV RX4 173 RX4 yX4_ageOf wsX4_ageOf) := goodIn_app (goodIn_of _ (by decide +kernel)) ggX4_canComeBack_X4_ageOf
theorem dX4_canComeBack_0 : decode cX4_canComeBack 0 = .ok (.aload_n 1, 1) := by decide +kernel
theorem dX4_canComeBack_1 : decode cX4_canComeBack 1 = .ok (.getfield 96, 3) := by decide +kernel
theorem dX4_canComeBack_4 : decode cX4_canComeBack 4 = .ok (.ifCond .eq 25, 3) := by decide +kernel
theorem dX4_canComeBack_7 : decode cX4_canComeBack 7 = .ok (.aload_n 0, 1) := by decide +kernel
theorem dX4_canComeBack_8 : decode cX4_canComeBack 8 = .ok (.aload_n 1, 1) := by decide +kernel
theorem dX4_canComeBack_9 : decode cX4_canComeBack 9 = .ok (.invokevirtual 173, 3) := by decide +kernel
theorem dX4_canComeBack_12 : decode cX4_canComeBack 12 = .ok (.bipush 60, 2) := by decide +kernel
theorem dX4_canComeBack_14 : decode cX4_canComeBack 14 = .ok (.if_icmp .gt 15, 3) := by decide +kernel
theorem dX4_canComeBack_17 : decode cX4_canComeBack 17 = .ok (.iload_n 3, 1) := by decide +kernel
theorem dX4_canComeBack_18 : decode cX4_canComeBack 18 = .ok (.aload_n 2, 1) := by decide +kernel
theorem dX4_canComeBack_19 : decode cX4_canComeBack 19 = .ok (.getfield 127, 3) := by decide +kernel
theorem dX4_canComeBack_22 : decode cX4_canComeBack 22 = .ok (.if_icmp .gt 7, 3) := by decide +kernel
theorem dX4_canComeBack_25 : decode cX4_canComeBack 25 = .ok (.iconst 1, 1) := by decide +kernel
theorem dX4_canComeBack_26 : decode cX4_canComeBack 26 = .ok (.goto 4, 3) := by decide +kernel
theorem dX4_canComeBack_29 : decode cX4_canComeBack 29 = .ok (.iconst 0, 1) := by decide +kernel
theorem dX4_canComeBack_30 : decode cX4_canComeBack 30 = .ok (.ireturn, 1) := by decide +kernel
set_option maxRecDepth 20000 in
theorem ggX4_isBlocked_X0_scoreOn : GoodIn wsX4_isBlocked wsX0_scoreOn := goodIn_r _ [6, 7, 8, 9, 10, 17, 18, 19, 20] (by decide +kernel) (by decide +kernel)
set_option maxRecDepth 20000 in
theorem gX4_isBlocked_X0_scoreOn : GoodIn wsX4_isBlocked (wsV RX4 221 RX0 yX0_scoreOn wsX0_scoreOn) := goodIn_app (goodIn_of _ (by decide +kernel)) ggX4_isBlocked_X0_scoreOn
theorem dX4_isBlocked_0 : decode cX4_isBlocked 0 = .ok (.aload_n 1, 1) := by decide +kernel
theorem dX4_isBlocked_1 : decode cX4_isBlocked 1 = .ok (.aload_n 0, 1) := by decide +kernel
theorem dX4_isBlocked_2 : decode cX4_isBlocked 2 = .ok (.getfield 57, 3) := by decide +kernel
theorem dX4_isBlocked_5 : decode cX4_isBlocked 5 = .ok (.invokevirtual 221, 3) := by decide +kernel
theorem dX4_isBlocked_8 : decode cX4_isBlocked 8 = .ok (.bipush 100, 2) := by decide +kernel
theorem dX4_isBlocked_10 : decode cX4_isBlocked 10 = .ok (.if_icmp .lt 7, 3) := by decide +kernel
theorem dX4_isBlocked_13 : decode cX4_isBlocked 13 = .ok (.iconst 1, 1) := by decide +kernel
theorem dX4_isBlocked_14 : decode cX4_isBlocked 14 = .ok (.goto 4, 3) := by decide +kernel
theorem dX4_isBlocked_17 : decode cX4_isBlocked 17 = .ok (.iconst 0, 1) := by decide +kernel
theorem dX4_isBlocked_18 : decode cX4_isBlocked 18 = .ok (.ireturn, 1) := by decide +kernel
set_option maxRecDepth 20000 in
theorem ggX4_takeBack_X3_freedBy : GoodIn wsX4_takeBack wsX3_freedBy := goodIn_r _ [10, 11, 12, 13, 14, 15, 16, 17, 18, 19, 9, 20, 21, 22, 23, 24, 25, 26, 27, 28, 29, 30, 31, 32, 33, 34, 81, 82, 83, 84, 85, 86, 87, 88, 89, 90, 91, 92, 93] (by decide +kernel) (by decide +kernel)
set_option maxRecDepth 20000 in
theorem gX4_takeBack_X3_freedBy : GoodIn wsX4_takeBack (wsV RX4 196 RX3 yX3_freedBy wsX3_freedBy) := goodIn_app (goodIn_of _ (by decide +kernel)) ggX4_takeBack_X3_freedBy
set_option maxRecDepth 20000 in
theorem ggX4_takeBack_X2_optionFor : GoodIn wsX4_takeBack wsX2_optionFor := goodIn_r _ [39, 40, 41, 38, 42, 43, 44, 45, 46, 47, 48, 14, 15, 16, 49, 50, 51, 52, 53, 54, 55, 56, 57, 58, 59, 60, 61, 62, 100, 101, 102, 103] (by decide +kernel) (by decide +kernel)
set_option maxRecDepth 20000 in
theorem gX4_takeBack_X2_optionFor : GoodIn wsX4_takeBack (wsV RX4 203 RX2 yX2_optionFor wsX2_optionFor) := goodIn_app (goodIn_of _ (by decide +kernel)) ggX4_takeBack_X2_optionFor
set_option maxRecDepth 20000 in
theorem ggX4_takeBack_X2_move : GoodIn wsX4_takeBack wsX2_move := goodIn_r _ [66, 67, 100, 101, 102, 103] (by decide +kernel) (by decide +kernel)
set_option maxRecDepth 20000 in
theorem gX4_takeBack_X2_move : GoodIn wsX4_takeBack (wsV RX4 217 RX2 yX2_move wsX2_move) := goodIn_app (goodIn_of _ (by decide +kernel)) ggX4_takeBack_X2_move
set_option maxRecDepth 20000 in
theorem ggX4_takeBack_X0_remember : GoodIn wsX4_takeBack wsX0_remember := goodIn_r _ [72, 73, 74, 75, 76, 77, 78, 79, 71, 80, 104, 105, 106, 107] (by decide +kernel) (by decide +kernel)
set_option maxRecDepth 20000 in
theorem gX4_takeBack_X0_remember : GoodIn wsX4_takeBack (wsV RX4 233 RX0 yX0_remember wsX0_remember) := goodIn_app (goodIn_of _ (by decide +kernel)) ggX4_takeBack_X0_remember
theorem dX4_takeBack_0 : decode cX4_takeBack 0 = .ok (.aload_n 1, 1) := by decide +kernel
theorem dX4_takeBack_1 : decode cX4_takeBack 1 = .ok (.aload_n 2, 1) := by decide +kernel
theorem dX4_takeBack_2 : decode cX4_takeBack 2 = .ok (.iload_n 3, 1) := by decide +kernel
theorem dX4_takeBack_3 : decode cX4_takeBack 3 = .ok (.invokevirtual 196, 3) := by decide +kernel
theorem dX4_takeBack_6 : decode cX4_takeBack 6 = .ok (.istore 6, 2) := by decide +kernel
theorem dX4_takeBack_8 : decode cX4_takeBack 8 = .ok (.aload_n 1, 1) := by decide +kernel
theorem dX4_takeBack_9 : decode cX4_takeBack 9 = .ok (.dup, 1) := by decide +kernel
theorem dX4_takeBack_10 : decode cX4_takeBack 10 = .ok (.getfield 200, 3) := by decide +kernel
theorem dX4_takeBack_13 : decode cX4_takeBack 13 = .ok (.iload 6, 2) := by decide +kernel
theorem dX4_takeBack_15 : decode cX4_takeBack 15 = .ok (.iadd, 1) := by decide +kernel
theorem dX4_takeBack_16 : decode cX4_takeBack 16 = .ok (.putfield 200, 3) := by decide +kernel
theorem dX4_takeBack_19 : decode cX4_takeBack 19 = .ok (.aload_n 2, 1) := by decide +kernel
theorem dX4_takeBack_20 : decode cX4_takeBack 20 = .ok (.dup, 1) := by decide +kernel
theorem dX4_takeBack_21 : decode cX4_takeBack 21 = .ok (.getfield 127, 3) := by decide +kernel
theorem dX4_takeBack_24 : decode cX4_takeBack 24 = .ok (.iload_n 3, 1) := by decide +kernel
theorem dX4_takeBack_25 : decode cX4_takeBack 25 = .ok (.isub, 1) := by decide +kernel
theorem dX4_takeBack_26 : decode cX4_takeBack 26 = .ok (.putfield 127, 3) := by decide +kernel
theorem dX4_takeBack_29 : decode cX4_takeBack 29 = .ok (.aload_n 2, 1) := by decide +kernel
theorem dX4_takeBack_30 : decode cX4_takeBack 30 = .ok (.getfield 229, 3) := by decide +kernel
theorem dX4_takeBack_33 : decode cX4_takeBack 33 = .ok (.astore 7, 2) := by decide +kernel
theorem dX4_takeBack_35 : decode cX4_takeBack 35 = .ok (.aload 7, 2) := by decide +kernel
theorem dX4_takeBack_37 : decode cX4_takeBack 37 = .ok (.aload 7, 2) := by decide +kernel
theorem dX4_takeBack_39 : decode cX4_takeBack 39 = .ok (.iload 4, 2) := by decide +kernel
theorem dX4_takeBack_41 : decode cX4_takeBack 41 = .ok (.invokevirtual 203, 3) := by decide +kernel
theorem dX4_takeBack_44 : decode cX4_takeBack 44 = .ok (.iload_n 3, 1) := by decide +kernel
theorem dX4_takeBack_45 : decode cX4_takeBack 45 = .ok (.invokevirtual 217, 3) := by decide +kernel
theorem dX4_takeBack_48 : decode cX4_takeBack 48 = .ok (.aload_n 1, 1) := by decide +kernel
theorem dX4_takeBack_49 : decode cX4_takeBack 49 = .ok (.getfield 159, 3) := by decide +kernel
theorem dX4_takeBack_52 : decode cX4_takeBack 52 = .ok (.aload_n 0, 1) := by decide +kernel
theorem dX4_takeBack_53 : decode cX4_takeBack 53 = .ok (.getfield 57, 3) := by decide +kernel
theorem dX4_takeBack_56 : decode cX4_takeBack 56 = .ok (.iload_n 3, 1) := by decide +kernel
theorem dX4_takeBack_57 : decode cX4_takeBack 57 = .ok (.iload 5, 2) := by decide +kernel
theorem dX4_takeBack_59 : decode cX4_takeBack 59 = .ok (.invokevirtual 233, 3) := by decide +kernel
theorem dX4_takeBack_62 : decode cX4_takeBack 62 = .ok (.iload 6, 2) := by decide +kernel
theorem dX4_takeBack_64 : decode cX4_takeBack 64 = .ok (.ireturn, 1) := by decide +kernel
theorem dX4_isCost_0 : decode cX4_isCost 0 = .ok (.iload_n 0, 1) := by decide +kernel
theorem dX4_isCost_1 : decode cX4_isCost 1 = .ok (.ifCond .lt 13, 3) := by decide +kernel
theorem dX4_isCost_4 : decode cX4_isCost 4 = .ok (.iload_n 0, 1) := by decide +kernel
theorem dX4_isCost_5 : decode cX4_isCost 5 = .ok (.ldc 33, 2) := by decide +kernel
theorem dX4_isCost_7 : decode cX4_isCost 7 = .ok (.if_icmp .gt 7, 3) := by decide +kernel
theorem dX4_isCost_10 : decode cX4_isCost 10 = .ok (.iconst 1, 1) := by decide +kernel
theorem dX4_isCost_11 : decode cX4_isCost 11 = .ok (.goto 4, 3) := by decide +kernel
theorem dX4_isCost_14 : decode cX4_isCost 14 = .ok (.iconst 0, 1) := by decide +kernel
theorem dX4_isCost_15 : decode cX4_isCost 15 = .ok (.ireturn, 1) := by decide +kernel
theorem dX4_isUnits_0 : decode cX4_isUnits 0 = .ok (.iload_n 0, 1) := by decide +kernel
theorem dX4_isUnits_1 : decode cX4_isUnits 1 = .ok (.iconst 1, 1) := by decide +kernel
theorem dX4_isUnits_2 : decode cX4_isUnits 2 = .ok (.if_icmp .lt 13, 3) := by decide +kernel
theorem dX4_isUnits_5 : decode cX4_isUnits 5 = .ok (.iload_n 0, 1) := by decide +kernel
theorem dX4_isUnits_6 : decode cX4_isUnits 6 = .ok (.bipush 20, 2) := by decide +kernel
theorem dX4_isUnits_8 : decode cX4_isUnits 8 = .ok (.if_icmp .gt 7, 3) := by decide +kernel
theorem dX4_isUnits_11 : decode cX4_isUnits 11 = .ok (.iconst 1, 1) := by decide +kernel
theorem dX4_isUnits_12 : decode cX4_isUnits 12 = .ok (.goto 4, 3) := by decide +kernel
theorem dX4_isUnits_15 : decode cX4_isUnits 15 = .ok (.iconst 0, 1) := by decide +kernel
theorem dX4_isUnits_16 : decode cX4_isUnits 16 = .ok (.ireturn, 1) := by decide +kernel
theorem dX4_isCondition_0 : decode cX4_isCondition 0 = .ok (.iload_n 0, 1) := by decide +kernel
theorem dX4_isCondition_1 : decode cX4_isCondition 1 = .ok (.ifCond .lt 12, 3) := by decide +kernel
theorem dX4_isCondition_4 : decode cX4_isCondition 4 = .ok (.iload_n 0, 1) := by decide +kernel
theorem dX4_isCondition_5 : decode cX4_isCondition 5 = .ok (.iconst 4, 1) := by decide +kernel
theorem dX4_isCondition_6 : decode cX4_isCondition 6 = .ok (.if_icmp .ge 7, 3) := by decide +kernel
theorem dX4_isCondition_9 : decode cX4_isCondition 9 = .ok (.iconst 1, 1) := by decide +kernel
theorem dX4_isCondition_10 : decode cX4_isCondition 10 = .ok (.goto 4, 3) := by decide +kernel
theorem dX4_isCondition_13 : decode cX4_isCondition 13 = .ok (.iconst 0, 1) := by decide +kernel
theorem dX4_isCondition_14 : decode cX4_isCondition 14 = .ok (.ireturn, 1) := by decide +kernel
theorem dX4_discountPercent_0 : decode cX4_discountPercent 0 = .ok (.iload_n 0, 1) := by decide +kernel
theorem dX4_discountPercent_1 : decode cX4_discountPercent 1 = .ok (.sipush 5000, 3) := by decide +kernel
theorem dX4_discountPercent_4 : decode cX4_discountPercent 4 = .ok (.if_icmp .ge 5, 3) := by decide +kernel
theorem dX4_discountPercent_7 : decode cX4_discountPercent 7 = .ok (.iconst 0, 1) := by decide +kernel
theorem dX4_discountPercent_8 : decode cX4_discountPercent 8 = .ok (.ireturn, 1) := by decide +kernel
theorem dX4_discountPercent_9 : decode cX4_discountPercent 9 = .ok (.iload_n 0, 1) := by decide +kernel
theorem dX4_discountPercent_10 : decode cX4_discountPercent 10 = .ok (.sipush 10000, 3) := by decide +kernel
theorem dX4_discountPercent_13 : decode cX4_discountPercent 13 = .ok (.if_icmp .ge 5, 3) := by decide +kernel
theorem dX4_discountPercent_16 : decode cX4_discountPercent 16 = .ok (.iconst 5, 1) := by decide +kernel
theorem dX4_discountPercent_17 : decode cX4_discountPercent 17 = .ok (.ireturn, 1) := by decide +kernel
theorem dX4_discountPercent_18 : decode cX4_discountPercent 18 = .ok (.iload_n 0, 1) := by decide +kernel
theorem dX4_discountPercent_19 : decode cX4_discountPercent 19 = .ok (.sipush 20000, 3) := by decide +kernel
theorem dX4_discountPercent_22 : decode cX4_discountPercent 22 = .ok (.if_icmp .ge 8, 3) := by decide +kernel
theorem dX4_discountPercent_25 : decode cX4_discountPercent 25 = .ok (.bipush 10, 2) := by decide +kernel
theorem dX4_discountPercent_27 : decode cX4_discountPercent 27 = .ok (.goto 5, 3) := by decide +kernel
theorem dX4_discountPercent_30 : decode cX4_discountPercent 30 = .ok (.bipush 15, 2) := by decide +kernel
theorem dX4_discountPercent_32 : decode cX4_discountPercent 32 = .ok (.ireturn, 1) := by decide +kernel
set_option maxRecDepth 20000 in
theorem ggX4_netOf_X4_discountPercent : GoodIn wsX4_netOf wsX4_discountPercent := goodIn_r _ [4] (by decide +kernel) (by decide +kernel)
set_option maxRecDepth 20000 in
theorem gX4_netOf_X4_discountPercent : GoodIn wsX4_netOf (va_wsS RX4 237 yX4_discountPercent wsX4_discountPercent) := goodIn_app (goodIn_of _ (by decide +kernel)) ggX4_netOf_X4_discountPercent
theorem dX4_netOf_0 : decode cX4_netOf 0 = .ok (.iload_n 0, 1) := by decide +kernel
theorem dX4_netOf_1 : decode cX4_netOf 1 = .ok (.iload_n 0, 1) := by decide +kernel
theorem dX4_netOf_2 : decode cX4_netOf 2 = .ok (.iload_n 0, 1) := by decide +kernel
theorem dX4_netOf_3 : decode cX4_netOf 3 = .ok (.invokestatic 237, 3) := by decide +kernel
theorem dX4_netOf_6 : decode cX4_netOf 6 = .ok (.imul, 1) := by decide +kernel
theorem dX4_netOf_7 : decode cX4_netOf 7 = .ok (.bipush 100, 2) := by decide +kernel
theorem dX4_netOf_9 : decode cX4_netOf 9 = .ok (.idiv, 1) := by decide +kernel
theorem dX4_netOf_10 : decode cX4_netOf 10 = .ok (.isub, 1) := by decide +kernel
theorem dX4_netOf_11 : decode cX4_netOf 11 = .ok (.ireturn, 1) := by decide +kernel
theorem dX4_feeOn_0 : decode cX4_feeOn 0 = .ok (.iload_n 2, 1) := by decide +kernel
theorem dX4_feeOn_1 : decode cX4_feeOn 1 = .ok (.iconst 3, 1) := by decide +kernel
theorem dX4_feeOn_2 : decode cX4_feeOn 2 = .ok (.if_icmp .eq 9, 3) := by decide +kernel
theorem dX4_feeOn_5 : decode cX4_feeOn 5 = .ok (.iload_n 1, 1) := by decide +kernel
theorem dX4_feeOn_6 : decode cX4_feeOn 6 = .ok (.bipush 14, 2) := by decide +kernel
theorem dX4_feeOn_8 : decode cX4_feeOn 8 = .ok (.if_icmp .gt 5, 3) := by decide +kernel
theorem dX4_feeOn_11 : decode cX4_feeOn 11 = .ok (.iconst 0, 1) := by decide +kernel
theorem dX4_feeOn_12 : decode cX4_feeOn 12 = .ok (.ireturn, 1) := by decide +kernel
theorem dX4_feeOn_13 : decode cX4_feeOn 13 = .ok (.iload_n 0, 1) := by decide +kernel
theorem dX4_feeOn_14 : decode cX4_feeOn 14 = .ok (.iload_n 1, 1) := by decide +kernel
theorem dX4_feeOn_15 : decode cX4_feeOn 15 = .ok (.bipush 30, 2) := by decide +kernel
theorem dX4_feeOn_17 : decode cX4_feeOn 17 = .ok (.if_icmp .gt 8, 3) := by decide +kernel
theorem dX4_feeOn_20 : decode cX4_feeOn 20 = .ok (.bipush 15, 2) := by decide +kernel
theorem dX4_feeOn_22 : decode cX4_feeOn 22 = .ok (.goto 5, 3) := by decide +kernel
theorem dX4_feeOn_25 : decode cX4_feeOn 25 = .ok (.bipush 50, 2) := by decide +kernel
theorem dX4_feeOn_27 : decode cX4_feeOn 27 = .ok (.imul, 1) := by decide +kernel
theorem dX4_feeOn_28 : decode cX4_feeOn 28 = .ok (.bipush 100, 2) := by decide +kernel
theorem dX4_feeOn_30 : decode cX4_feeOn 30 = .ok (.idiv, 1) := by decide +kernel
theorem dX4_feeOn_31 : decode cX4_feeOn 31 = .ok (.ireturn, 1) := by decide +kernel
theorem dJ9_floorDiv_7cf53_0 : decode cJ9_floorDiv_7cf53 0 = .ok (.iload_n 0, 1) := by decide +kernel
theorem dJ9_floorDiv_7cf53_1 : decode cJ9_floorDiv_7cf53 1 = .ok (.iload_n 1, 1) := by decide +kernel
theorem dJ9_floorDiv_7cf53_2 : decode cJ9_floorDiv_7cf53 2 = .ok (.idiv, 1) := by decide +kernel
theorem dJ9_floorDiv_7cf53_3 : decode cJ9_floorDiv_7cf53 3 = .ok (.istore_n 2, 1) := by decide +kernel
theorem dJ9_floorDiv_7cf53_4 : decode cJ9_floorDiv_7cf53 4 = .ok (.iload_n 0, 1) := by decide +kernel
theorem dJ9_floorDiv_7cf53_5 : decode cJ9_floorDiv_7cf53 5 = .ok (.iload_n 1, 1) := by decide +kernel
theorem dJ9_floorDiv_7cf53_6 : decode cJ9_floorDiv_7cf53 6 = .ok (.ixor, 1) := by decide +kernel
theorem dJ9_floorDiv_7cf53_7 : decode cJ9_floorDiv_7cf53 7 = .ok (.ifCond .ge 14, 3) := by decide +kernel
theorem dJ9_floorDiv_7cf53_10 : decode cJ9_floorDiv_7cf53 10 = .ok (.iload_n 2, 1) := by decide +kernel
theorem dJ9_floorDiv_7cf53_11 : decode cJ9_floorDiv_7cf53 11 = .ok (.iload_n 1, 1) := by decide +kernel
theorem dJ9_floorDiv_7cf53_12 : decode cJ9_floorDiv_7cf53 12 = .ok (.imul, 1) := by decide +kernel
theorem dJ9_floorDiv_7cf53_13 : decode cJ9_floorDiv_7cf53 13 = .ok (.iload_n 0, 1) := by decide +kernel
theorem dJ9_floorDiv_7cf53_14 : decode cJ9_floorDiv_7cf53 14 = .ok (.if_icmp .eq 7, 3) := by decide +kernel
theorem dJ9_floorDiv_7cf53_17 : decode cJ9_floorDiv_7cf53 17 = .ok (.iload_n 2, 1) := by decide +kernel
theorem dJ9_floorDiv_7cf53_18 : decode cJ9_floorDiv_7cf53 18 = .ok (.iconst 1, 1) := by decide +kernel
theorem dJ9_floorDiv_7cf53_19 : decode cJ9_floorDiv_7cf53 19 = .ok (.isub, 1) := by decide +kernel
theorem dJ9_floorDiv_7cf53_20 : decode cJ9_floorDiv_7cf53 20 = .ok (.ireturn, 1) := by decide +kernel
theorem dJ9_floorDiv_7cf53_21 : decode cJ9_floorDiv_7cf53 21 = .ok (.iload_n 2, 1) := by decide +kernel
theorem dJ9_floorDiv_7cf53_22 : decode cJ9_floorDiv_7cf53 22 = .ok (.ireturn, 1) := by decide +kernel
theorem dJ9_max_7cf53_0 : decode cJ9_max_7cf53 0 = .ok (.iload_n 0, 1) := by decide +kernel
theorem dJ9_max_7cf53_1 : decode cJ9_max_7cf53 1 = .ok (.iload_n 1, 1) := by decide +kernel
theorem dJ9_max_7cf53_2 : decode cJ9_max_7cf53 2 = .ok (.if_icmp .lt 7, 3) := by decide +kernel
theorem dJ9_max_7cf53_5 : decode cJ9_max_7cf53 5 = .ok (.iload_n 0, 1) := by decide +kernel
theorem dJ9_max_7cf53_6 : decode cJ9_max_7cf53 6 = .ok (.goto 4, 3) := by decide +kernel
theorem dJ9_max_7cf53_9 : decode cJ9_max_7cf53 9 = .ok (.iload_n 1, 1) := by decide +kernel
theorem dJ9_max_7cf53_10 : decode cJ9_max_7cf53 10 = .ok (.ireturn, 1) := by decide +kernel
