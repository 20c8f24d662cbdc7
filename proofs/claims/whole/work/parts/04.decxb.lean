theorem dX4_exchange_148 : decode cX4_exchange 148 = .ok (.new 105, 3) := by decide +kernel
theorem dX4_exchange_151 : decode cX4_exchange 151 = .ok (.dup, 1) := by decide +kernel
theorem dX4_exchange_152 : decode cX4_exchange 152 = .ok (.aload 8, 2) := by decide +kernel
theorem dX4_exchange_154 : decode cX4_exchange 154 = .ok (.iload_n 3, 1) := by decide +kernel
theorem dX4_exchange_155 : decode cX4_exchange 155 = .ok (.invokespecial 107, 3) := by decide +kernel
theorem dX4_exchange_158 : decode cX4_exchange 158 = .ok (.invokevirtual 110, 3) := by decide +kernel
theorem dX4_exchange_161 : decode cX4_exchange 161 = .ok (.pop, 1) := by decide +kernel
theorem dX4_exchange_162 : decode cX4_exchange 162 = .ok (.aload 10, 2) := by decide +kernel
theorem dX4_exchange_164 : decode cX4_exchange 164 = .ok (.aload 7, 2) := by decide +kernel
theorem dX4_exchange_166 : decode cX4_exchange 166 = .ok (.getfield 193, 3) := by decide +kernel
theorem dX4_exchange_169 : decode cX4_exchange 169 = .ok (.invokevirtual 116, 3) := by decide +kernel
theorem dX4_exchange_172 : decode cX4_exchange 172 = .ok (.aload_n 0, 1) := by decide +kernel
theorem dX4_exchange_173 : decode cX4_exchange 173 = .ok (.aload 10, 2) := by decide +kernel
theorem dX4_exchange_175 : decode cX4_exchange 175 = .ok (.invokevirtual 83, 3) := by decide +kernel
theorem dX4_exchange_178 : decode cX4_exchange 178 = .ok (.pop, 1) := by decide +kernel
theorem dX4_exchange_179 : decode cX4_exchange 179 = .ok (.aload 10, 2) := by decide +kernel
theorem dX4_exchange_181 : decode cX4_exchange 181 = .ok (.getfield 120, 3) := by decide +kernel
theorem dX4_exchange_184 : decode cX4_exchange 184 = .ok (.iload 9, 2) := by decide +kernel
theorem dX4_exchange_186 : decode cX4_exchange 186 = .ok (.isub, 1) := by decide +kernel
theorem dX4_exchange_187 : decode cX4_exchange 187 = .ok (.ireturn, 1) := by decide +kernel
set_option maxRecDepth 20000 in
theorem ggX4_quote_X4_existingLine : GoodIn wsX4_quote wsX4_existingLine := goodIn_ca (goodIn_r _ [9, 10, 11, 12, 13, 14, 8, 15, 16, 17, 18, 19, 20, 21, 22, 23, 24, 25, 26, 74, 75, 76, 77, 78, 79, 80, 81, 82, 83, 84, 85, 86, 87, 88] (by decide +kernel) (by decide +kernel)) (goodIn_sub (fun _ h => List.mem_cons_of_mem _ (List.mem_append_right _ h)) (by decide +kernel))
set_option maxRecDepth 20000 in
theorem gX4_quote_X4_existingLine : GoodIn wsX4_quote (wsV RX4 123 RX4 yX4_existingLine wsX4_existingLine) := goodIn_app (goodIn_of _ (by decide +kernel)) ggX4_quote_X4_existingLine
set_option maxRecDepth 20000 in
theorem ggX4_quote_X4_existingSale : GoodIn wsX4_quote wsX4_existingSale := goodIn_ca (goodIn_r _ [15, 10, 11, 16, 17, 18, 8, 19, 20, 74, 75, 76, 77, 78, 79] (by decide +kernel) (by decide +kernel)) (goodIn_sub (fun _ h => List.mem_cons_of_mem _ (List.mem_append_right _ h)) (by decide +kernel))
set_option maxRecDepth 20000 in
theorem gX4_quote_X4_existingSale : GoodIn wsX4_quote (wsV RX4 87 RX4 yX4_existingSale wsX4_existingSale) := goodIn_app (goodIn_of _ (by decide +kernel)) ggX4_quote_X4_existingSale
set_option maxRecDepth 20000 in
theorem ggX4_quote_X4_isUnits : GoodIn wsX4_quote wsX4_isUnits := goodIn_r _ [29] (by decide +kernel) (by decide +kernel)
set_option maxRecDepth 20000 in
theorem gX4_quote_X4_isUnits : GoodIn wsX4_quote (va_wsS RX4 91 yX4_isUnits wsX4_isUnits) := goodIn_app (goodIn_of _ (by decide +kernel)) ggX4_quote_X4_isUnits
set_option maxRecDepth 20000 in
theorem ggX4_quote_X4_isCondition : GoodIn wsX4_quote wsX4_isCondition := goodIn_r _ [32] (by decide +kernel) (by decide +kernel)
set_option maxRecDepth 20000 in
theorem gX4_quote_X4_isCondition : GoodIn wsX4_quote (va_wsS RX4 150 yX4_isCondition wsX4_isCondition) := goodIn_app (goodIn_of _ (by decide +kernel)) ggX4_quote_X4_isCondition
set_option maxRecDepth 20000 in
theorem ggX4_quote_X4_canComeBack : GoodIn wsX4_quote wsX4_canComeBack := goodIn_r _ [36, 37, 38, 39, 40, 41, 8, 42, 43, 44, 80, 81, 82, 83, 84, 85, 86, 87, 88, 89, 90, 91, 92, 74, 75, 76, 77, 78, 79] (by decide +kernel) (by decide +kernel)
set_option maxRecDepth 20000 in
theorem gX4_quote_X4_canComeBack : GoodIn wsX4_quote (wsV RX4 155 RX4 yX4_canComeBack wsX4_canComeBack) := goodIn_app (goodIn_of _ (by decide +kernel)) ggX4_quote_X4_canComeBack
set_option maxRecDepth 20000 in
theorem ggX4_quote_X3_freedBy : GoodIn wsX4_quote wsX3_freedBy := goodIn_r _ [48, 49, 50, 51, 52, 53, 54, 55, 56, 57, 24, 58, 26, 59, 60, 61, 62, 63, 64, 65, 66, 8, 67, 68, 69, 70, 80, 81, 82, 83, 84, 85, 86, 87, 88, 89, 90, 91, 92] (by decide +kernel) (by decide +kernel)
set_option maxRecDepth 20000 in
theorem gX4_quote_X3_freedBy : GoodIn wsX4_quote (wsV RX4 196 RX3 yX3_freedBy wsX3_freedBy) := goodIn_app (goodIn_of _ (by decide +kernel)) ggX4_quote_X3_freedBy
set_option maxRecDepth 20000 in
theorem ggX4_quote_X4_ageOf : GoodIn wsX4_quote wsX4_ageOf := goodIn_r _ [42, 43, 44, 74, 75, 76, 77, 78, 79, 80, 81, 82, 83, 84, 85, 86, 87, 88] (by decide +kernel) (by decide +kernel)
set_option maxRecDepth 20000 in
theorem gX4_quote_X4_ageOf : GoodIn wsX4_quote (wsV RX4 173 RX4 yX4_ageOf wsX4_ageOf) := goodIn_app (goodIn_of _ (by decide +kernel)) ggX4_quote_X4_ageOf
set_option maxRecDepth 20000 in
theorem ggX4_quote_X4_feeOn : GoodIn wsX4_quote wsX4_feeOn := goodIn_r _ [73] (by decide +kernel) (by decide +kernel)
set_option maxRecDepth 20000 in
theorem gX4_quote_X4_feeOn : GoodIn wsX4_quote (va_wsS RX4 176 yX4_feeOn wsX4_feeOn) := goodIn_app (goodIn_of _ (by decide +kernel)) ggX4_quote_X4_feeOn
theorem dX4_quote_0 : decode cX4_quote 0 = .ok (.aload_n 0, 1) := by decide +kernel
theorem dX4_quote_1 : decode cX4_quote 1 = .ok (.iload_n 1, 1) := by decide +kernel
theorem dX4_quote_2 : decode cX4_quote 2 = .ok (.iload_n 2, 1) := by decide +kernel
theorem dX4_quote_3 : decode cX4_quote 3 = .ok (.invokevirtual 123, 3) := by decide +kernel
theorem dX4_quote_6 : decode cX4_quote 6 = .ok (.astore 5, 2) := by decide +kernel
theorem dX4_quote_8 : decode cX4_quote 8 = .ok (.aload_n 0, 1) := by decide +kernel
theorem dX4_quote_9 : decode cX4_quote 9 = .ok (.iload_n 1, 1) := by decide +kernel
theorem dX4_quote_10 : decode cX4_quote 10 = .ok (.invokevirtual 87, 3) := by decide +kernel
theorem dX4_quote_13 : decode cX4_quote 13 = .ok (.astore 6, 2) := by decide +kernel
theorem dX4_quote_15 : decode cX4_quote 15 = .ok (.iload_n 3, 1) := by decide +kernel
theorem dX4_quote_16 : decode cX4_quote 16 = .ok (.invokestatic 91, 3) := by decide +kernel
theorem dX4_quote_19 : decode cX4_quote 19 = .ok (.ifCond .eq 11, 3) := by decide +kernel
theorem dX4_quote_22 : decode cX4_quote 22 = .ok (.iload 4, 2) := by decide +kernel
theorem dX4_quote_24 : decode cX4_quote 24 = .ok (.invokestatic 150, 3) := by decide +kernel
theorem dX4_quote_27 : decode cX4_quote 27 = .ok (.ifCond .ne 13, 3) := by decide +kernel
theorem dX4_quote_30 : decode cX4_quote 30 = .ok (.new 38, 3) := by decide +kernel
theorem dX4_quote_33 : decode cX4_quote 33 = .ok (.dup, 1) := by decide +kernel
theorem dX4_quote_34 : decode cX4_quote 34 = .ok (.ldc 153, 2) := by decide +kernel
theorem dX4_quote_36 : decode cX4_quote 36 = .ok (.invokespecial 42, 3) := by decide +kernel
theorem dX4_quote_39 : decode cX4_quote 39 = .ok (.athrow, 1) := by decide +kernel
theorem dX4_quote_40 : decode cX4_quote 40 = .ok (.aload_n 0, 1) := by decide +kernel
theorem dX4_quote_41 : decode cX4_quote 41 = .ok (.aload 6, 2) := by decide +kernel
theorem dX4_quote_43 : decode cX4_quote 43 = .ok (.aload 5, 2) := by decide +kernel
theorem dX4_quote_45 : decode cX4_quote 45 = .ok (.iload_n 3, 1) := by decide +kernel
theorem dX4_quote_46 : decode cX4_quote 46 = .ok (.invokevirtual 155, 3) := by decide +kernel
theorem dX4_quote_49 : decode cX4_quote 49 = .ok (.ifCond .ne 13, 3) := by decide +kernel
theorem dX4_quote_52 : decode cX4_quote 52 = .ok (.new 60, 3) := by decide +kernel
theorem dX4_quote_55 : decode cX4_quote 55 = .ok (.dup, 1) := by decide +kernel
theorem dX4_quote_56 : decode cX4_quote 56 = .ok (.ldc 167, 2) := by decide +kernel
theorem dX4_quote_58 : decode cX4_quote 58 = .ok (.invokespecial 64, 3) := by decide +kernel
theorem dX4_quote_61 : decode cX4_quote 61 = .ok (.athrow, 1) := by decide +kernel
theorem dX4_quote_62 : decode cX4_quote 62 = .ok (.aload 6, 2) := by decide +kernel
theorem dX4_quote_64 : decode cX4_quote 64 = .ok (.aload 5, 2) := by decide +kernel
theorem dX4_quote_66 : decode cX4_quote 66 = .ok (.iload_n 3, 1) := by decide +kernel
theorem dX4_quote_67 : decode cX4_quote 67 = .ok (.invokevirtual 196, 3) := by decide +kernel
theorem dX4_quote_70 : decode cX4_quote 70 = .ok (.istore 7, 2) := by decide +kernel
theorem dX4_quote_72 : decode cX4_quote 72 = .ok (.iload 7, 2) := by decide +kernel
theorem dX4_quote_74 : decode cX4_quote 74 = .ok (.iload 7, 2) := by decide +kernel
theorem dX4_quote_76 : decode cX4_quote 76 = .ok (.aload_n 0, 1) := by decide +kernel
theorem dX4_quote_77 : decode cX4_quote 77 = .ok (.aload 6, 2) := by decide +kernel
theorem dX4_quote_79 : decode cX4_quote 79 = .ok (.invokevirtual 173, 3) := by decide +kernel
theorem dX4_quote_82 : decode cX4_quote 82 = .ok (.iload 4, 2) := by decide +kernel
theorem dX4_quote_84 : decode cX4_quote 84 = .ok (.invokestatic 176, 3) := by decide +kernel
theorem dX4_quote_87 : decode cX4_quote 87 = .ok (.isub, 1) := by decide +kernel
theorem dX4_quote_88 : decode cX4_quote 88 = .ok (.ireturn, 1) := by decide +kernel
set_option maxRecDepth 20000 in
theorem ggX4_released_X4_existingSale : GoodIn wsX4_released wsX4_existingSale := goodIn_ca (goodIn_r _ [6, 7, 8, 9, 10, 11, 5, 12, 13, 23, 24, 25, 26, 27, 28] (by decide +kernel) (by decide +kernel)) (goodIn_sub (fun _ h => List.mem_cons_of_mem _ (List.mem_append_right _ h)) (by decide +kernel))
set_option maxRecDepth 20000 in
theorem gX4_released_X4_existingSale : GoodIn wsX4_released (wsV RX4 87 RX4 yX4_existingSale wsX4_existingSale) := goodIn_app (goodIn_of _ (by decide +kernel)) ggX4_released_X4_existingSale
theorem dX4_released_0 : decode cX4_released 0 = .ok (.aload_n 0, 1) := by decide +kernel
theorem dX4_released_1 : decode cX4_released 1 = .ok (.iload_n 1, 1) := by decide +kernel
theorem dX4_released_2 : decode cX4_released 2 = .ok (.invokevirtual 87, 3) := by decide +kernel
theorem dX4_released_5 : decode cX4_released 5 = .ok (.getfield 200, 3) := by decide +kernel
theorem dX4_released_8 : decode cX4_released 8 = .ok (.ireturn, 1) := by decide +kernel
theorem dX4_fees_0 : decode cX4_fees 0 = .ok (.aload_n 0, 1) := by decide +kernel
theorem dX4_fees_1 : decode cX4_fees 1 = .ok (.getfield 180, 3) := by decide +kernel
theorem dX4_fees_4 : decode cX4_fees 4 = .ok (.ireturn, 1) := by decide +kernel
set_option maxRecDepth 20000 in
theorem ggX4_firstSale_X4_existingSale : GoodIn wsX4_firstSale wsX4_existingSale := goodIn_ca (goodIn_r _ [6, 7, 8, 9, 10, 11, 5, 12, 13, 23, 24, 25, 26, 27, 28] (by decide +kernel) (by decide +kernel)) (goodIn_sub (fun _ h => List.mem_cons_of_mem _ (List.mem_append_right _ h)) (by decide +kernel))
set_option maxRecDepth 20000 in
theorem gX4_firstSale_X4_existingSale : GoodIn wsX4_firstSale (wsV RX4 87 RX4 yX4_existingSale wsX4_existingSale) := goodIn_app (goodIn_of _ (by decide +kernel)) ggX4_firstSale_X4_existingSale
theorem dX4_firstSale_0 : decode cX4_firstSale 0 = .ok (.aload_n 0, 1) := by decide +kernel
theorem dX4_firstSale_1 : decode cX4_firstSale 1 = .ok (.iload_n 1, 1) := by decide +kernel
theorem dX4_firstSale_2 : decode cX4_firstSale 2 = .ok (.invokevirtual 87, 3) := by decide +kernel
theorem dX4_firstSale_5 : decode cX4_firstSale 5 = .ok (.getfield 190, 3) := by decide +kernel
theorem dX4_firstSale_8 : decode cX4_firstSale 8 = .ok (.ireturn, 1) := by decide +kernel
set_option maxRecDepth 20000 in
theorem ggX4_exchanges_X4_existingSale : GoodIn wsX4_exchanges wsX4_existingSale := goodIn_ca (goodIn_r _ [6, 7, 8, 9, 10, 11, 5, 12, 13, 23, 24, 25, 26, 27, 28] (by decide +kernel) (by decide +kernel)) (goodIn_sub (fun _ h => List.mem_cons_of_mem _ (List.mem_append_right _ h)) (by decide +kernel))
set_option maxRecDepth 20000 in
theorem gX4_exchanges_X4_existingSale : GoodIn wsX4_exchanges (wsV RX4 87 RX4 yX4_existingSale wsX4_existingSale) := goodIn_app (goodIn_of _ (by decide +kernel)) ggX4_exchanges_X4_existingSale
theorem dX4_exchanges_0 : decode cX4_exchanges 0 = .ok (.aload_n 0, 1) := by decide +kernel
theorem dX4_exchanges_1 : decode cX4_exchanges 1 = .ok (.iload_n 1, 1) := by decide +kernel
theorem dX4_exchanges_2 : decode cX4_exchanges 2 = .ok (.invokevirtual 87, 3) := by decide +kernel
theorem dX4_exchanges_5 : decode cX4_exchanges 5 = .ok (.getfield 187, 3) := by decide +kernel
theorem dX4_exchanges_8 : decode cX4_exchanges 8 = .ok (.ireturn, 1) := by decide +kernel
set_option maxRecDepth 20000 in
theorem ggX4_bestOption_X4_productAt : GoodIn wsX4_bestOption wsX4_productAt := goodIn_r _ [7, 8, 43, 44, 45, 46, 47, 48] (by decide +kernel) (by decide +kernel)
set_option maxRecDepth 20000 in
theorem gX4_bestOption_X4_productAt : GoodIn wsX4_bestOption (wsV RX4 29 RX4 yX4_productAt wsX4_productAt) := goodIn_app (goodIn_of _ (by decide +kernel)) ggX4_bestOption_X4_productAt
set_option maxRecDepth 20000 in
theorem ggX4_bestOption_X4_isCondition : GoodIn wsX4_bestOption wsX4_isCondition := goodIn_r _ [11] (by decide +kernel) (by decide +kernel)
set_option maxRecDepth 20000 in
theorem gX4_bestOption_X4_isCondition : GoodIn wsX4_bestOption (va_wsS RX4 150 yX4_isCondition wsX4_isCondition) := goodIn_app (goodIn_of _ (by decide +kernel)) ggX4_bestOption_X4_isCondition
set_option maxRecDepth 20000 in
theorem ggX4_bestOption_X2_optionFor : GoodIn wsX4_bestOption wsX2_optionFor := goodIn_r _ [16, 17, 18, 15, 19, 20, 21, 22, 23, 24, 25, 26, 27, 28, 29, 30, 31, 32, 33, 34, 35, 36, 37, 38, 39, 40, 41, 42, 49, 50, 51, 52] (by decide +kernel) (by decide +kernel)
set_option maxRecDepth 20000 in
theorem gX4_bestOption_X2_optionFor : GoodIn wsX4_bestOption (wsV RX4 203 RX2 yX2_optionFor wsX2_optionFor) := goodIn_app (goodIn_of _ (by decide +kernel)) ggX4_bestOption_X2_optionFor
theorem dX4_bestOption_0 : decode cX4_bestOption 0 = .ok (.aload_n 0, 1) := by decide +kernel
theorem dX4_bestOption_1 : decode cX4_bestOption 1 = .ok (.iload_n 1, 1) := by decide +kernel
theorem dX4_bestOption_2 : decode cX4_bestOption 2 = .ok (.invokevirtual 29, 3) := by decide +kernel
theorem dX4_bestOption_5 : decode cX4_bestOption 5 = .ok (.astore_n 3, 1) := by decide +kernel
theorem dX4_bestOption_6 : decode cX4_bestOption 6 = .ok (.aload_n 3, 1) := by decide +kernel
theorem dX4_bestOption_7 : decode cX4_bestOption 7 = .ok (.ifnull 10, 3) := by decide +kernel
theorem dX4_bestOption_10 : decode cX4_bestOption 10 = .ok (.iload_n 2, 1) := by decide +kernel
theorem dX4_bestOption_11 : decode cX4_bestOption 11 = .ok (.invokestatic 150, 3) := by decide +kernel
theorem dX4_bestOption_14 : decode cX4_bestOption 14 = .ok (.ifCond .ne 13, 3) := by decide +kernel
theorem dX4_bestOption_17 : decode cX4_bestOption 17 = .ok (.new 38, 3) := by decide +kernel
theorem dX4_bestOption_20 : decode cX4_bestOption 20 = .ok (.dup, 1) := by decide +kernel
theorem dX4_bestOption_21 : decode cX4_bestOption 21 = .ok (.ldc 40, 2) := by decide +kernel
theorem dX4_bestOption_23 : decode cX4_bestOption 23 = .ok (.invokespecial 42, 3) := by decide +kernel
theorem dX4_bestOption_26 : decode cX4_bestOption 26 = .ok (.athrow, 1) := by decide +kernel
theorem dX4_bestOption_27 : decode cX4_bestOption 27 = .ok (.aload_n 3, 1) := by decide +kernel
theorem dX4_bestOption_28 : decode cX4_bestOption 28 = .ok (.iload_n 2, 1) := by decide +kernel
theorem dX4_bestOption_29 : decode cX4_bestOption 29 = .ok (.invokevirtual 203, 3) := by decide +kernel
theorem dX4_bestOption_32 : decode cX4_bestOption 32 = .ok (.ireturn, 1) := by decide +kernel
set_option maxRecDepth 20000 in
theorem ggX4_bestWorth_X4_productAt : GoodIn wsX4_bestWorth wsX4_productAt := goodIn_r _ [7, 8, 44, 45, 46, 47, 48, 49] (by decide +kernel) (by decide +kernel)
set_option maxRecDepth 20000 in
theorem gX4_bestWorth_X4_productAt : GoodIn wsX4_bestWorth (wsV RX4 29 RX4 yX4_productAt wsX4_productAt) := goodIn_app (goodIn_of _ (by decide +kernel)) ggX4_bestWorth_X4_productAt
set_option maxRecDepth 20000 in
theorem ggX4_bestWorth_X4_isCondition : GoodIn wsX4_bestWorth wsX4_isCondition := goodIn_r _ [11] (by decide +kernel) (by decide +kernel)
set_option maxRecDepth 20000 in
theorem gX4_bestWorth_X4_isCondition : GoodIn wsX4_bestWorth (va_wsS RX4 150 yX4_isCondition wsX4_isCondition) := goodIn_app (goodIn_of _ (by decide +kernel)) ggX4_bestWorth_X4_isCondition
set_option maxRecDepth 20000 in
theorem ggX4_bestWorth_X2_optionFor : GoodIn wsX4_bestWorth wsX2_optionFor := goodIn_r _ [16, 17, 18, 15, 19, 20, 21, 22, 23, 24, 25, 26, 27, 28, 29, 30, 31, 32, 33, 34, 35, 36, 37, 38, 39, 40, 41, 42, 50, 51, 52, 53] (by decide +kernel) (by decide +kernel)
set_option maxRecDepth 20000 in
theorem gX4_bestWorth_X2_optionFor : GoodIn wsX4_bestWorth (wsV RX4 203 RX2 yX2_optionFor wsX2_optionFor) := goodIn_app (goodIn_of _ (by decide +kernel)) ggX4_bestWorth_X2_optionFor
set_option maxRecDepth 20000 in
theorem ggX4_bestWorth_X2_worthOf : GoodIn wsX4_bestWorth wsX2_worthOf := goodIn_r _ [23, 24, 25, 26, 27, 28, 29, 30, 31, 15, 32, 33, 34, 35, 36, 37, 38, 39, 40, 41, 42, 50, 51, 52, 53] (by decide +kernel) (by decide +kernel)
set_option maxRecDepth 20000 in
theorem gX4_bestWorth_X2_worthOf : GoodIn wsX4_bestWorth (wsV RX4 206 RX2 yX2_worthOf wsX2_worthOf) := goodIn_app (goodIn_of _ (by decide +kernel)) ggX4_bestWorth_X2_worthOf
theorem dX4_bestWorth_0 : decode cX4_bestWorth 0 = .ok (.aload_n 0, 1) := by decide +kernel
theorem dX4_bestWorth_1 : decode cX4_bestWorth 1 = .ok (.iload_n 1, 1) := by decide +kernel
theorem dX4_bestWorth_2 : decode cX4_bestWorth 2 = .ok (.invokevirtual 29, 3) := by decide +kernel
theorem dX4_bestWorth_5 : decode cX4_bestWorth 5 = .ok (.astore_n 3, 1) := by decide +kernel
theorem dX4_bestWorth_6 : decode cX4_bestWorth 6 = .ok (.aload_n 3, 1) := by decide +kernel
theorem dX4_bestWorth_7 : decode cX4_bestWorth 7 = .ok (.ifnull 10, 3) := by decide +kernel
theorem dX4_bestWorth_10 : decode cX4_bestWorth 10 = .ok (.iload_n 2, 1) := by decide +kernel
theorem dX4_bestWorth_11 : decode cX4_bestWorth 11 = .ok (.invokestatic 150, 3) := by decide +kernel
theorem dX4_bestWorth_14 : decode cX4_bestWorth 14 = .ok (.ifCond .ne 13, 3) := by decide +kernel
theorem dX4_bestWorth_17 : decode cX4_bestWorth 17 = .ok (.new 38, 3) := by decide +kernel
theorem dX4_bestWorth_20 : decode cX4_bestWorth 20 = .ok (.dup, 1) := by decide +kernel
theorem dX4_bestWorth_21 : decode cX4_bestWorth 21 = .ok (.ldc 40, 2) := by decide +kernel
theorem dX4_bestWorth_23 : decode cX4_bestWorth 23 = .ok (.invokespecial 42, 3) := by decide +kernel
theorem dX4_bestWorth_26 : decode cX4_bestWorth 26 = .ok (.athrow, 1) := by decide +kernel
theorem dX4_bestWorth_27 : decode cX4_bestWorth 27 = .ok (.aload_n 3, 1) := by decide +kernel
theorem dX4_bestWorth_28 : decode cX4_bestWorth 28 = .ok (.aload_n 3, 1) := by decide +kernel
theorem dX4_bestWorth_29 : decode cX4_bestWorth 29 = .ok (.iload_n 2, 1) := by decide +kernel
theorem dX4_bestWorth_30 : decode cX4_bestWorth 30 = .ok (.invokevirtual 203, 3) := by decide +kernel
theorem dX4_bestWorth_33 : decode cX4_bestWorth 33 = .ok (.iload_n 2, 1) := by decide +kernel
theorem dX4_bestWorth_34 : decode cX4_bestWorth 34 = .ok (.invokevirtual 206, 3) := by decide +kernel
theorem dX4_bestWorth_37 : decode cX4_bestWorth 37 = .ok (.ireturn, 1) := by decide +kernel
set_option maxRecDepth 20000 in
theorem ggX4_stock_X4_productAt : GoodIn wsX4_stock wsX4_productAt := goodIn_r _ [7, 8, 15, 16, 17, 18, 19, 20] (by decide +kernel) (by decide +kernel)
set_option maxRecDepth 20000 in
theorem gX4_stock_X4_productAt : GoodIn wsX4_stock (wsV RX4 29 RX4 yX4_productAt wsX4_productAt) := goodIn_app (goodIn_of _ (by decide +kernel)) ggX4_stock_X4_productAt
set_option maxRecDepth 20000 in
theorem ggX4_stock_X2_unitsAt : GoodIn wsX4_stock wsX2_unitsAt := goodIn_r _ [13, 14, 21, 22, 23, 24] (by decide +kernel) (by decide +kernel)
set_option maxRecDepth 20000 in
theorem gX4_stock_X2_unitsAt : GoodIn wsX4_stock (wsV RX4 210 RX2 yX2_unitsAt wsX2_unitsAt) := goodIn_app (goodIn_of _ (by decide +kernel)) ggX4_stock_X2_unitsAt
theorem dX4_stock_0 : decode cX4_stock 0 = .ok (.aload_n 0, 1) := by decide +kernel
theorem dX4_stock_1 : decode cX4_stock 1 = .ok (.iload_n 1, 1) := by decide +kernel
theorem dX4_stock_2 : decode cX4_stock 2 = .ok (.invokevirtual 29, 3) := by decide +kernel
theorem dX4_stock_5 : decode cX4_stock 5 = .ok (.astore_n 3, 1) := by decide +kernel
theorem dX4_stock_6 : decode cX4_stock 6 = .ok (.aload_n 3, 1) := by decide +kernel
theorem dX4_stock_7 : decode cX4_stock 7 = .ok (.ifnull 12, 3) := by decide +kernel
theorem dX4_stock_10 : decode cX4_stock 10 = .ok (.iload_n 2, 1) := by decide +kernel
theorem dX4_stock_11 : decode cX4_stock 11 = .ok (.ifCond .lt 8, 3) := by decide +kernel
theorem dX4_stock_14 : decode cX4_stock 14 = .ok (.iload_n 2, 1) := by decide +kernel
theorem dX4_stock_15 : decode cX4_stock 15 = .ok (.iconst 5, 1) := by decide +kernel
theorem dX4_stock_16 : decode cX4_stock 16 = .ok (.if_icmp .lt 13, 3) := by decide +kernel
theorem dX4_stock_19 : decode cX4_stock 19 = .ok (.new 38, 3) := by decide +kernel
theorem dX4_stock_22 : decode cX4_stock 22 = .ok (.dup, 1) := by decide +kernel
theorem dX4_stock_23 : decode cX4_stock 23 = .ok (.ldc 40, 2) := by decide +kernel
theorem dX4_stock_25 : decode cX4_stock 25 = .ok (.invokespecial 42, 3) := by decide +kernel
theorem dX4_stock_28 : decode cX4_stock 28 = .ok (.athrow, 1) := by decide +kernel
theorem dX4_stock_29 : decode cX4_stock 29 = .ok (.aload_n 3, 1) := by decide +kernel
theorem dX4_stock_30 : decode cX4_stock 30 = .ok (.iload_n 2, 1) := by decide +kernel
theorem dX4_stock_31 : decode cX4_stock 31 = .ok (.invokevirtual 210, 3) := by decide +kernel
theorem dX4_stock_34 : decode cX4_stock 34 = .ok (.ireturn, 1) := by decide +kernel
set_option maxRecDepth 20000 in
theorem ggX4_test_X4_productAt : GoodIn wsX4_test wsX4_productAt := goodIn_r _ [9, 10, 51, 52, 53, 54, 55, 56] (by decide +kernel) (by decide +kernel)
set_option maxRecDepth 20000 in
theorem gX4_test_X4_productAt : GoodIn wsX4_test (wsV RX4 29 RX4 yX4_productAt wsX4_productAt) := goodIn_app (goodIn_of _ (by decide +kernel)) ggX4_test_X4_productAt
set_option maxRecDepth 20000 in
theorem ggX4_test_X2_unitsAt : GoodIn wsX4_test wsX2_unitsAt := goodIn_r _ [15, 16, 57, 58, 59, 60] (by decide +kernel) (by decide +kernel)
set_option maxRecDepth 20000 in
theorem gX4_test_X2_unitsAt : GoodIn wsX4_test (wsV RX4 210 RX2 yX2_unitsAt wsX2_unitsAt) := goodIn_app (goodIn_of _ (by decide +kernel)) ggX4_test_X2_unitsAt
set_option maxRecDepth 20000 in
theorem ggX4_test_X2_optionFor : GoodIn wsX4_test wsX2_optionFor := goodIn_r _ [20, 21, 22, 14, 23, 24, 25, 26, 27, 28, 29, 30, 31, 32, 33, 34, 35, 36, 37, 38, 39, 40, 41, 42, 43, 44, 45, 46, 57, 58, 59, 60] (by decide +kernel) (by decide +kernel)
set_option maxRecDepth 20000 in
theorem gX4_test_X2_optionFor : GoodIn wsX4_test (wsV RX4 203 RX2 yX2_optionFor wsX2_optionFor) := goodIn_app (goodIn_of _ (by decide +kernel)) ggX4_test_X2_optionFor
set_option maxRecDepth 20000 in
theorem ggX4_test_X2_move : GoodIn wsX4_test wsX2_move := goodIn_r _ [50, 16, 57, 58, 59, 60] (by decide +kernel) (by decide +kernel)
set_option maxRecDepth 20000 in
theorem gX4_test_X2_move : GoodIn wsX4_test (wsV RX4 217 RX2 yX2_move wsX2_move) := goodIn_app (goodIn_of _ (by decide +kernel)) ggX4_test_X2_move
theorem dX4_test_0 : decode cX4_test 0 = .ok (.aload_n 0, 1) := by decide +kernel
theorem dX4_test_1 : decode cX4_test 1 = .ok (.iload_n 1, 1) := by decide +kernel
theorem dX4_test_2 : decode cX4_test 2 = .ok (.invokevirtual 29, 3) := by decide +kernel
theorem dX4_test_5 : decode cX4_test 5 = .ok (.astore_n 3, 1) := by decide +kernel
theorem dX4_test_6 : decode cX4_test 6 = .ok (.aload_n 3, 1) := by decide +kernel
theorem dX4_test_7 : decode cX4_test 7 = .ok (.ifnonnull 13, 3) := by decide +kernel
theorem dX4_test_10 : decode cX4_test 10 = .ok (.new 38, 3) := by decide +kernel
theorem dX4_test_13 : decode cX4_test 13 = .ok (.dup, 1) := by decide +kernel
theorem dX4_test_14 : decode cX4_test 14 = .ok (.ldc 213, 2) := by decide +kernel
theorem dX4_test_16 : decode cX4_test 16 = .ok (.invokespecial 42, 3) := by decide +kernel
theorem dX4_test_19 : decode cX4_test 19 = .ok (.athrow, 1) := by decide +kernel
theorem dX4_test_20 : decode cX4_test 20 = .ok (.aload_n 3, 1) := by decide +kernel
theorem dX4_test_21 : decode cX4_test 21 = .ok (.iconst 1, 1) := by decide +kernel
theorem dX4_test_22 : decode cX4_test 22 = .ok (.invokevirtual 210, 3) := by decide +kernel
theorem dX4_test_25 : decode cX4_test 25 = .ok (.ifCond .ne 13, 3) := by decide +kernel
theorem dX4_test_28 : decode cX4_test 28 = .ok (.new 60, 3) := by decide +kernel
theorem dX4_test_31 : decode cX4_test 31 = .ok (.dup, 1) := by decide +kernel
theorem dX4_test_32 : decode cX4_test 32 = .ok (.ldc 215, 2) := by decide +kernel
theorem dX4_test_34 : decode cX4_test 34 = .ok (.invokespecial 64, 3) := by decide +kernel
theorem dX4_test_37 : decode cX4_test 37 = .ok (.athrow, 1) := by decide +kernel
theorem dX4_test_38 : decode cX4_test 38 = .ok (.iload_n 2, 1) := by decide +kernel
theorem dX4_test_39 : decode cX4_test 39 = .ok (.ifCond .eq 7, 3) := by decide +kernel
theorem dX4_test_42 : decode cX4_test 42 = .ok (.iconst 0, 1) := by decide +kernel
theorem dX4_test_43 : decode cX4_test 43 = .ok (.goto 8, 3) := by decide +kernel
theorem dX4_test_46 : decode cX4_test 46 = .ok (.aload_n 3, 1) := by decide +kernel
theorem dX4_test_47 : decode cX4_test 47 = .ok (.iconst 2, 1) := by decide +kernel
theorem dX4_test_48 : decode cX4_test 48 = .ok (.invokevirtual 203, 3) := by decide +kernel
theorem dX4_test_51 : decode cX4_test 51 = .ok (.istore 4, 2) := by decide +kernel
theorem dX4_test_53 : decode cX4_test 53 = .ok (.aload_n 3, 1) := by decide +kernel
theorem dX4_test_54 : decode cX4_test 54 = .ok (.iconst 1, 1) := by decide +kernel
theorem dX4_test_55 : decode cX4_test 55 = .ok (.iconst (-1), 1) := by decide +kernel
theorem dX4_test_56 : decode cX4_test 56 = .ok (.invokevirtual 217, 3) := by decide +kernel
theorem dX4_test_59 : decode cX4_test 59 = .ok (.aload_n 3, 1) := by decide +kernel
theorem dX4_test_60 : decode cX4_test 60 = .ok (.iload 4, 2) := by decide +kernel
theorem dX4_test_62 : decode cX4_test 62 = .ok (.iconst 1, 1) := by decide +kernel
theorem dX4_test_63 : decode cX4_test 63 = .ok (.invokevirtual 217, 3) := by decide +kernel
theorem dX4_test_66 : decode cX4_test 66 = .ok (.iload 4, 2) := by decide +kernel
theorem dX4_test_68 : decode cX4_test 68 = .ok (.ireturn, 1) := by decide +kernel
set_option maxRecDepth 20000 in
theorem ggX4_score_X4_customerAt : GoodIn wsX4_score wsX4_customerAt := goodIn_r _ [8, 9, 19, 20, 21, 22, 23, 24] (by decide +kernel) (by decide +kernel)
set_option maxRecDepth 20000 in
theorem gX4_score_X4_customerAt : GoodIn wsX4_score (wsV RX4 65 RX4 yX4_customerAt wsX4_customerAt) := goodIn_app (goodIn_of _ (by decide +kernel)) ggX4_score_X4_customerAt
set_option maxRecDepth 20000 in
theorem ggX4_score_X0_scoreOn : GoodIn wsX4_score wsX0_scoreOn := goodIn_r _ [14, 15, 16, 17, 18, 25, 26, 27, 28] (by decide +kernel) (by decide +kernel)
set_option maxRecDepth 20000 in
theorem gX4_score_X0_scoreOn : GoodIn wsX4_score (wsV RX4 221 RX0 yX0_scoreOn wsX0_scoreOn) := goodIn_app (goodIn_of _ (by decide +kernel)) ggX4_score_X0_scoreOn
theorem dX4_score_0 : decode cX4_score 0 = .ok (.aload_n 0, 1) := by decide +kernel
theorem dX4_score_1 : decode cX4_score 1 = .ok (.iload_n 1, 1) := by decide +kernel
theorem dX4_score_2 : decode cX4_score 2 = .ok (.invokevirtual 65, 3) := by decide +kernel
theorem dX4_score_5 : decode cX4_score 5 = .ok (.astore_n 2, 1) := by decide +kernel
theorem dX4_score_6 : decode cX4_score 6 = .ok (.aload_n 2, 1) := by decide +kernel
theorem dX4_score_7 : decode cX4_score 7 = .ok (.ifnonnull 13, 3) := by decide +kernel
theorem dX4_score_10 : decode cX4_score 10 = .ok (.new 38, 3) := by decide +kernel
theorem dX4_score_13 : decode cX4_score 13 = .ok (.dup, 1) := by decide +kernel
theorem dX4_score_14 : decode cX4_score 14 = .ok (.ldc 69, 2) := by decide +kernel
theorem dX4_score_16 : decode cX4_score 16 = .ok (.invokespecial 42, 3) := by decide +kernel
theorem dX4_score_19 : decode cX4_score 19 = .ok (.athrow, 1) := by decide +kernel
theorem dX4_score_20 : decode cX4_score 20 = .ok (.aload_n 2, 1) := by decide +kernel
theorem dX4_score_21 : decode cX4_score 21 = .ok (.aload_n 0, 1) := by decide +kernel
theorem dX4_score_22 : decode cX4_score 22 = .ok (.getfield 57, 3) := by decide +kernel
theorem dX4_score_25 : decode cX4_score 25 = .ok (.invokevirtual 221, 3) := by decide +kernel
theorem dX4_score_28 : decode cX4_score 28 = .ok (.ireturn, 1) := by decide +kernel
theorem dX4_productAt_0 : decode cX4_productAt 0 = .ok (.iload_n 1, 1) := by decide +kernel
theorem dX4_productAt_1 : decode cX4_productAt 1 = .ok (.ifCond .lt 21, 3) := by decide +kernel
theorem dX4_productAt_4 : decode cX4_productAt 4 = .ok (.iload_n 1, 1) := by decide +kernel
theorem dX4_productAt_5 : decode cX4_productAt 5 = .ok (.aload_n 0, 1) := by decide +kernel
theorem dX4_productAt_6 : decode cX4_productAt 6 = .ok (.getfield 11, 3) := by decide +kernel
theorem dX4_productAt_9 : decode cX4_productAt 9 = .ok (.arraylength, 1) := by decide +kernel
theorem dX4_productAt_10 : decode cX4_productAt 10 = .ok (.if_icmp .ge 12, 3) := by decide +kernel
theorem dX4_productAt_13 : decode cX4_productAt 13 = .ok (.aload_n 0, 1) := by decide +kernel
theorem dX4_productAt_14 : decode cX4_productAt 14 = .ok (.getfield 11, 3) := by decide +kernel
theorem dX4_productAt_17 : decode cX4_productAt 17 = .ok (.iload_n 1, 1) := by decide +kernel
theorem dX4_productAt_18 : decode cX4_productAt 18 = .ok (.aaload, 1) := by decide +kernel
theorem dX4_productAt_19 : decode cX4_productAt 19 = .ok (.goto 4, 3) := by decide +kernel
theorem dX4_productAt_22 : decode cX4_productAt 22 = .ok (.aconst_null, 1) := by decide +kernel
theorem dX4_productAt_23 : decode cX4_productAt 23 = .ok (.areturn, 1) := by decide +kernel
theorem dX4_customerAt_0 : decode cX4_customerAt 0 = .ok (.iload_n 1, 1) := by decide +kernel
theorem dX4_customerAt_1 : decode cX4_customerAt 1 = .ok (.ifCond .lt 21, 3) := by decide +kernel
theorem dX4_customerAt_4 : decode cX4_customerAt 4 = .ok (.iload_n 1, 1) := by decide +kernel
theorem dX4_customerAt_5 : decode cX4_customerAt 5 = .ok (.aload_n 0, 1) := by decide +kernel
theorem dX4_customerAt_6 : decode cX4_customerAt 6 = .ok (.getfield 18, 3) := by decide +kernel
theorem dX4_customerAt_9 : decode cX4_customerAt 9 = .ok (.arraylength, 1) := by decide +kernel
theorem dX4_customerAt_10 : decode cX4_customerAt 10 = .ok (.if_icmp .ge 12, 3) := by decide +kernel
theorem dX4_customerAt_13 : decode cX4_customerAt 13 = .ok (.aload_n 0, 1) := by decide +kernel
theorem dX4_customerAt_14 : decode cX4_customerAt 14 = .ok (.getfield 18, 3) := by decide +kernel
theorem dX4_customerAt_17 : decode cX4_customerAt 17 = .ok (.iload_n 1, 1) := by decide +kernel
theorem dX4_customerAt_18 : decode cX4_customerAt 18 = .ok (.aaload, 1) := by decide +kernel
theorem dX4_customerAt_19 : decode cX4_customerAt 19 = .ok (.goto 4, 3) := by decide +kernel
theorem dX4_customerAt_22 : decode cX4_customerAt 22 = .ok (.aconst_null, 1) := by decide +kernel
theorem dX4_customerAt_23 : decode cX4_customerAt 23 = .ok (.areturn, 1) := by decide +kernel
theorem dX4_saleAt_0 : decode cX4_saleAt 0 = .ok (.iload_n 1, 1) := by decide +kernel
theorem dX4_saleAt_1 : decode cX4_saleAt 1 = .ok (.ifCond .lt 21, 3) := by decide +kernel
theorem dX4_saleAt_4 : decode cX4_saleAt 4 = .ok (.iload_n 1, 1) := by decide +kernel
theorem dX4_saleAt_5 : decode cX4_saleAt 5 = .ok (.aload_n 0, 1) := by decide +kernel
theorem dX4_saleAt_6 : decode cX4_saleAt 6 = .ok (.getfield 25, 3) := by decide +kernel
theorem dX4_saleAt_9 : decode cX4_saleAt 9 = .ok (.arraylength, 1) := by decide +kernel
theorem dX4_saleAt_10 : decode cX4_saleAt 10 = .ok (.if_icmp .ge 12, 3) := by decide +kernel
theorem dX4_saleAt_13 : decode cX4_saleAt 13 = .ok (.aload_n 0, 1) := by decide +kernel
theorem dX4_saleAt_14 : decode cX4_saleAt 14 = .ok (.getfield 25, 3) := by decide +kernel
theorem dX4_saleAt_17 : decode cX4_saleAt 17 = .ok (.iload_n 1, 1) := by decide +kernel
theorem dX4_saleAt_18 : decode cX4_saleAt 18 = .ok (.aaload, 1) := by decide +kernel
theorem dX4_saleAt_19 : decode cX4_saleAt 19 = .ok (.goto 4, 3) := by decide +kernel
theorem dX4_saleAt_22 : decode cX4_saleAt 22 = .ok (.aconst_null, 1) := by decide +kernel
theorem dX4_saleAt_23 : decode cX4_saleAt 23 = .ok (.areturn, 1) := by decide +kernel
set_option maxRecDepth 20000 in
theorem ggX4_existingSale_X4_saleAt : GoodIn wsX4_existingSale wsX4_saleAt := goodIn_r _ [7, 8, 9, 10, 11, 12, 13, 14] (by decide +kernel) (by decide +kernel)
set_option maxRecDepth 20000 in
theorem gX4_existingSale_X4_saleAt : GoodIn wsX4_existingSale (wsV RX4 224 RX4 yX4_saleAt wsX4_saleAt) := goodIn_app (goodIn_of _ (by decide +kernel)) ggX4_existingSale_X4_saleAt
theorem dX4_existingSale_0 : decode cX4_existingSale 0 = .ok (.aload_n 0, 1) := by decide +kernel
theorem dX4_existingSale_1 : decode cX4_existingSale 1 = .ok (.iload_n 1, 1) := by decide +kernel
theorem dX4_existingSale_2 : decode cX4_existingSale 2 = .ok (.invokevirtual 224, 3) := by decide +kernel
theorem dX4_existingSale_5 : decode cX4_existingSale 5 = .ok (.astore_n 2, 1) := by decide +kernel
theorem dX4_existingSale_6 : decode cX4_existingSale 6 = .ok (.aload_n 2, 1) := by decide +kernel
theorem dX4_existingSale_7 : decode cX4_existingSale 7 = .ok (.ifnonnull 13, 3) := by decide +kernel
theorem dX4_existingSale_10 : decode cX4_existingSale 10 = .ok (.new 142, 3) := by decide +kernel
theorem dX4_existingSale_13 : decode cX4_existingSale 13 = .ok (.dup, 1) := by decide +kernel
theorem dX4_existingSale_14 : decode cX4_existingSale 14 = .ok (.ldc 227, 2) := by decide +kernel
theorem dX4_existingSale_16 : decode cX4_existingSale 16 = .ok (.invokespecial 146, 3) := by decide +kernel
theorem dX4_existingSale_19 : decode cX4_existingSale 19 = .ok (.athrow, 1) := by decide +kernel
theorem dX4_existingSale_20 : decode cX4_existingSale 20 = .ok (.aload_n 2, 1) := by decide +kernel
theorem dX4_existingSale_21 : decode cX4_existingSale 21 = .ok (.areturn, 1) := by decide +kernel
set_option maxRecDepth 20000 in
theorem ggX4_existingLine_X4_existingSale : GoodIn wsX4_existingLine wsX4_existingSale := goodIn_ca (goodIn_r _ [7, 1, 2, 8, 9, 10, 6, 11, 12, 19, 20, 21, 22, 23, 24] (by decide +kernel) (by decide +kernel)) (goodIn_sub (fun _ h => List.mem_cons_of_mem _ (List.mem_append_right _ h)) (by decide +kernel))
set_option maxRecDepth 20000 in
theorem gX4_existingLine_X4_existingSale : GoodIn wsX4_existingLine (wsV RX4 87 RX4 yX4_existingSale wsX4_existingSale) := goodIn_app (goodIn_of _ (by decide +kernel)) ggX4_existingLine_X4_existingSale
set_option maxRecDepth 20000 in
theorem ggX4_existingLine_X3_lineAt : GoodIn wsX4_existingLine wsX3_lineAt := goodIn_r _ [17, 18, 25, 26, 27, 28, 29, 30, 31, 32, 33] (by decide +kernel) (by decide +kernel)
set_option maxRecDepth 20000 in
theorem gX4_existingLine_X3_lineAt : GoodIn wsX4_existingLine (wsV RX4 138 RX3 yX3_lineAt wsX3_lineAt) := goodIn_app (goodIn_of _ (by decide +kernel)) ggX4_existingLine_X3_lineAt
theorem dX4_existingLine_0 : decode cX4_existingLine 0 = .ok (.aload_n 0, 1) := by decide +kernel
theorem dX4_existingLine_1 : decode cX4_existingLine 1 = .ok (.iload_n 1, 1) := by decide +kernel
theorem dX4_existingLine_2 : decode cX4_existingLine 2 = .ok (.invokevirtual 87, 3) := by decide +kernel
theorem dX4_existingLine_5 : decode cX4_existingLine 5 = .ok (.iload_n 2, 1) := by decide +kernel
theorem dX4_existingLine_6 : decode cX4_existingLine 6 = .ok (.invokevirtual 138, 3) := by decide +kernel
theorem dX4_existingLine_9 : decode cX4_existingLine 9 = .ok (.astore_n 3, 1) := by decide +kernel
theorem dX4_existingLine_10 : decode cX4_existingLine 10 = .ok (.aload_n 3, 1) := by decide +kernel
theorem dX4_existingLine_11 : decode cX4_existingLine 11 = .ok (.ifnonnull 13, 3) := by decide +kernel
theorem dX4_existingLine_14 : decode cX4_existingLine 14 = .ok (.new 142, 3) := by decide +kernel
theorem dX4_existingLine_17 : decode cX4_existingLine 17 = .ok (.dup, 1) := by decide +kernel
theorem dX4_existingLine_18 : decode cX4_existingLine 18 = .ok (.ldc 144, 2) := by decide +kernel
theorem dX4_existingLine_20 : decode cX4_existingLine 20 = .ok (.invokespecial 146, 3) := by decide +kernel
theorem dX4_existingLine_23 : decode cX4_existingLine 23 = .ok (.athrow, 1) := by decide +kernel
theorem dX4_existingLine_24 : decode cX4_existingLine 24 = .ok (.aload_n 3, 1) := by decide +kernel
theorem dX4_existingLine_25 : decode cX4_existingLine 25 = .ok (.areturn, 1) := by decide +kernel
theorem dX4_isRegisterFull_0 : decode cX4_isRegisterFull 0 = .ok (.aload_n 0, 1) := by decide +kernel
theorem dX4_isRegisterFull_1 : decode cX4_isRegisterFull 1 = .ok (.getfield 77, 3) := by decide +kernel
theorem dX4_isRegisterFull_4 : decode cX4_isRegisterFull 4 = .ok (.aload_n 0, 1) := by decide +kernel
theorem dX4_isRegisterFull_5 : decode cX4_isRegisterFull 5 = .ok (.getfield 25, 3) := by decide +kernel
theorem dX4_isRegisterFull_8 : decode cX4_isRegisterFull 8 = .ok (.arraylength, 1) := by decide +kernel
theorem dX4_isRegisterFull_9 : decode cX4_isRegisterFull 9 = .ok (.if_icmp .lt 7, 3) := by decide +kernel
theorem dX4_isRegisterFull_12 : decode cX4_isRegisterFull 12 = .ok (.iconst 1, 1) := by decide +kernel
theorem dX4_isRegisterFull_13 : decode cX4_isRegisterFull 13 = .ok (.goto 4, 3) := by decide +kernel
theorem dX4_isRegisterFull_16 : decode cX4_isRegisterFull 16 = .ok (.iconst 0, 1) := by decide +kernel
theorem dX4_isRegisterFull_17 : decode cX4_isRegisterFull 17 = .ok (.ireturn, 1) := by decide +kernel
theorem dX4_enter_0 : decode cX4_enter 0 = .ok (.aload_n 0, 1) := by decide +kernel
theorem dX4_enter_1 : decode cX4_enter 1 = .ok (.getfield 77, 3) := by decide +kernel
theorem dX4_enter_4 : decode cX4_enter 4 = .ok (.istore_n 2, 1) := by decide +kernel
theorem dX4_enter_5 : decode cX4_enter 5 = .ok (.iload_n 2, 1) := by decide +kernel
theorem dX4_enter_6 : decode cX4_enter 6 = .ok (.ifCond .lt 29, 3) := by decide +kernel
theorem dX4_enter_9 : decode cX4_enter 9 = .ok (.iload_n 2, 1) := by decide +kernel
theorem dX4_enter_10 : decode cX4_enter 10 = .ok (.aload_n 0, 1) := by decide +kernel
theorem dX4_enter_11 : decode cX4_enter 11 = .ok (.getfield 25, 3) := by decide +kernel
theorem dX4_enter_14 : decode cX4_enter 14 = .ok (.arraylength, 1) := by decide +kernel
theorem dX4_enter_15 : decode cX4_enter 15 = .ok (.if_icmp .ge 20, 3) := by decide +kernel
theorem dX4_enter_18 : decode cX4_enter 18 = .ok (.aload_n 0, 1) := by decide +kernel
theorem dX4_enter_19 : decode cX4_enter 19 = .ok (.getfield 25, 3) := by decide +kernel
theorem dX4_enter_22 : decode cX4_enter 22 = .ok (.iload_n 2, 1) := by decide +kernel
theorem dX4_enter_23 : decode cX4_enter 23 = .ok (.aload_n 1, 1) := by decide +kernel
theorem dX4_enter_24 : decode cX4_enter 24 = .ok (.aastore, 1) := by decide +kernel
theorem dX4_enter_25 : decode cX4_enter 25 = .ok (.aload_n 0, 1) := by decide +kernel
theorem dX4_enter_26 : decode cX4_enter 26 = .ok (.dup, 1) := by decide +kernel
theorem dX4_enter_27 : decode cX4_enter 27 = .ok (.getfield 77, 3) := by decide +kernel
theorem dX4_enter_30 : decode cX4_enter 30 = .ok (.iconst 1, 1) := by decide +kernel
theorem dX4_enter_31 : decode cX4_enter 31 = .ok (.iadd, 1) := by decide +kernel
theorem dX4_enter_32 : decode cX4_enter 32 = .ok (.putfield 77, 3) := by decide +kernel
theorem dX4_enter_35 : decode cX4_enter 35 = .ok (.iload_n 2, 1) := by decide +kernel
theorem dX4_enter_36 : decode cX4_enter 36 = .ok (.ireturn, 1) := by decide +kernel
theorem dX4_ageOf_0 : decode cX4_ageOf 0 = .ok (.aload_n 0, 1) := by decide +kernel
theorem dX4_ageOf_1 : decode cX4_ageOf 1 = .ok (.getfield 57, 3) := by decide +kernel
theorem dX4_ageOf_4 : decode cX4_ageOf 4 = .ok (.aload_n 1, 1) := by decide +kernel
theorem dX4_ageOf_5 : decode cX4_ageOf 5 = .ok (.getfield 193, 3) := by decide +kernel
theorem dX4_ageOf_8 : decode cX4_ageOf 8 = .ok (.isub, 1) := by decide +kernel
theorem dX4_ageOf_9 : decode cX4_ageOf 9 = .ok (.ireturn, 1) := by decide +kernel
set_option maxRecDepth 20000 in
theorem ggX4_canComeBack_X4_ageOf : GoodIn wsX4_canComeBack wsX4_ageOf := goodIn_r _ [7, 8, 9, 23, 24, 25, 26, 27, 28, 10, 11, 12, 13, 14, 15, 16, 17, 18] (by decide +kernel) (by decide +kernel)
set_option maxRecDepth 20000 in
theorem gX4_canComeBack_X4_ageOf : GoodIn wsX4_canComeBack (wsV RX4 173 RX4 yX4_ageOf wsX4_ageOf) := goodIn_app (goodIn_of _ (by decide +kernel)) ggX4_canComeBack_X4_ageOf
theorem dX4_canComeBack_0 : decode cX4_canComeBack 0 = .ok (.aload_n 1, 1) := by decide +kernel
theorem dX4_canComeBack_1 : decode cX4_canComeBack 1 = .ok (.getfield 96, 3) := by decide +kernel
theorem dX4_canComeBack_4 : decode cX4_canComeBack 4 = .ok (.ifCond .eq 25, 3) := by decide +kernel
theorem dX4_canComeBack_7 : decode cX4_canComeBack 7 = .ok (.aload_n 0, 1) := by decide +kernel
theorem dX4_canComeBack_8 : decode cX4_canComeBack 8 = .ok (.aload_n 1, 1) := by decide +kernel
theorem dX4_canComeBack_9 : decode cX4_canComeBack 9 = .ok (.invokevirtual 173, 3) := by decide +kernel
theorem dX4_canComeBack_12 : decode cX4_canComeBack 12 = .ok (.bipush 60, 2) := by decide +kernel
theorem dX4_canComeBack_14 : decode cX4_canComeBack 14 = .ok (.if_icmp .gt 15, 3) := by decide +kernel
theorem dX4_canComeBack_17 : decode cX4_canComeBack 17 = .ok (.iload_n 3, 1) := by decide +kernel
theorem dX4_canComeBack_18 : decode cX4_canComeBack 18 = .ok (.aload_n 2, 1) := by decide +kernel
theorem dX4_canComeBack_19 : decode cX4_canComeBack 19 = .ok (.getfield 127, 3) := by decide +kernel
theorem dX4_canComeBack_22 : decode cX4_canComeBack 22 = .ok (.if_icmp .gt 7, 3) := by decide +kernel
theorem dX4_canComeBack_25 : decode cX4_canComeBack 25 = .ok (.iconst 1, 1) := by decide +kernel
theorem dX4_canComeBack_26 : decode cX4_canComeBack 26 = .ok (.goto 4, 3) := by decide +kernel
theorem dX4_canComeBack_29 : decode cX4_canComeBack 29 = .ok (.iconst 0, 1) := by decide +kernel
theorem dX4_canComeBack_30 : decode cX4_canComeBack 30 = .ok (.ireturn, 1) := by decide +kernel
set_option maxRecDepth 20000 in
theorem ggX4_isBlocked_X0_scoreOn : GoodIn wsX4_isBlocked wsX0_scoreOn := goodIn_r _ [6, 7, 8, 9, 10, 17, 18, 19, 20] (by decide +kernel) (by decide +kernel)
set_option maxRecDepth 20000 in
theorem gX4_isBlocked_X0_scoreOn : GoodIn wsX4_isBlocked (wsV RX4 221 RX0 yX0_scoreOn wsX0_scoreOn) := goodIn_app (goodIn_of _ (by decide +kernel)) ggX4_isBlocked_X0_scoreOn
theorem dX4_isBlocked_0 : decode cX4_isBlocked 0 = .ok (.aload_n 1, 1) := by decide +kernel
theorem dX4_isBlocked_1 : decode cX4_isBlocked 1 = .ok (.aload_n 0, 1) := by decide +kernel
theorem dX4_isBlocked_2 : decode cX4_isBlocked 2 = .ok (.getfield 57, 3) := by decide +kernel
theorem dX4_isBlocked_5 : decode cX4_isBlocked 5 = .ok (.invokevirtual 221, 3) := by decide +kernel
theorem dX4_isBlocked_8 : decode cX4_isBlocked 8 = .ok (.bipush 100, 2) := by decide +kernel
theorem dX4_isBlocked_10 : decode cX4_isBlocked 10 = .ok (.if_icmp .lt 7, 3) := by decide +kernel
theorem dX4_isBlocked_13 : decode cX4_isBlocked 13 = .ok (.iconst 1, 1) := by decide +kernel
theorem dX4_isBlocked_14 : decode cX4_isBlocked 14 = .ok (.goto 4, 3) := by decide +kernel
theorem dX4_isBlocked_17 : decode cX4_isBlocked 17 = .ok (.iconst 0, 1) := by decide +kernel
theorem dX4_isBlocked_18 : decode cX4_isBlocked 18 = .ok (.ireturn, 1) := by decide +kernel
set_option maxRecDepth 20000 in
theorem ggX4_takeBack_X3_freedBy : GoodIn wsX4_takeBack wsX3_freedBy := goodIn_r _ [10, 11, 12, 13, 14, 15, 16, 17, 18, 19, 9, 20, 21, 22, 23, 24, 25, 26, 27, 28, 29, 30, 31, 32, 33, 34, 81, 82, 83, 84, 85, 86, 87, 88, 89, 90, 91, 92, 93] (by decide +kernel) (by decide +kernel)
set_option maxRecDepth 20000 in
theorem gX4_takeBack_X3_freedBy : GoodIn wsX4_takeBack (wsV RX4 196 RX3 yX3_freedBy wsX3_freedBy) := goodIn_app (goodIn_of _ (by decide +kernel)) ggX4_takeBack_X3_freedBy
set_option maxRecDepth 20000 in
theorem ggX4_takeBack_X2_optionFor : GoodIn wsX4_takeBack wsX2_optionFor := goodIn_r _ [39, 40, 41, 38, 42, 43, 44, 45, 46, 47, 48, 14, 15, 16, 49, 50, 51, 52, 53, 54, 55, 56, 57, 58, 59, 60, 61, 62, 100, 101, 102, 103] (by decide +kernel) (by decide +kernel)
set_option maxRecDepth 20000 in
theorem gX4_takeBack_X2_optionFor : GoodIn wsX4_takeBack (wsV RX4 203 RX2 yX2_optionFor wsX2_optionFor) := goodIn_app (goodIn_of _ (by decide +kernel)) ggX4_takeBack_X2_optionFor
set_option maxRecDepth 20000 in
theorem ggX4_takeBack_X2_move : GoodIn wsX4_takeBack wsX2_move := goodIn_r _ [66, 67, 100, 101, 102, 103] (by decide +kernel) (by decide +kernel)
set_option maxRecDepth 20000 in
theorem gX4_takeBack_X2_move : GoodIn wsX4_takeBack (wsV RX4 217 RX2 yX2_move wsX2_move) := goodIn_app (goodIn_of _ (by decide +kernel)) ggX4_takeBack_X2_move
set_option maxRecDepth 20000 in
theorem ggX4_takeBack_X0_remember : GoodIn wsX4_takeBack wsX0_remember := goodIn_r _ [72, 73, 74, 75, 76, 77, 78, 79, 71, 80, 104, 105, 106, 107] (by decide +kernel) (by decide +kernel)
set_option maxRecDepth 20000 in
theorem gX4_takeBack_X0_remember : GoodIn wsX4_takeBack (wsV RX4 233 RX0 yX0_remember wsX0_remember) := goodIn_app (goodIn_of _ (by decide +kernel)) ggX4_takeBack_X0_remember
theorem dX4_takeBack_0 : decode cX4_takeBack 0 = .ok (.aload_n 1, 1) := by decide +kernel
theorem dX4_takeBack_1 : decode cX4_takeBack 1 = .ok (.aload_n 2, 1) := by decide +kernel
theorem dX4_takeBack_2 : decode cX4_takeBack 2 = .ok (.iload_n 3, 1) := by decide +kernel
theorem dX4_takeBack_3 : decode cX4_takeBack 3 = .ok (.invokevirtual 196, 3) := by decide +kernel
theorem dX4_takeBack_6 : decode cX4_takeBack 6 = .ok (.istore 6, 2) := by decide +kernel
theorem dX4_takeBack_8 : decode cX4_takeBack 8 = .ok (.aload_n 1, 1) := by decide +kernel
theorem dX4_takeBack_9 : decode cX4_takeBack 9 = .ok (.dup, 1) := by decide +kernel
theorem dX4_takeBack_10 : decode cX4_takeBack 10 = .ok (.getfield 200, 3) := by decide +kernel
theorem dX4_takeBack_13 : decode cX4_takeBack 13 = .ok (.iload 6, 2) := by decide +kernel
theorem dX4_takeBack_15 : decode cX4_takeBack 15 = .ok (.iadd, 1) := by decide +kernel
theorem dX4_takeBack_16 : decode cX4_takeBack 16 = .ok (.putfield 200, 3) := by decide +kernel
theorem dX4_takeBack_19 : decode cX4_takeBack 19 = .ok (.aload_n 2, 1) := by decide +kernel
theorem dX4_takeBack_20 : decode cX4_takeBack 20 = .ok (.dup, 1) := by decide +kernel
theorem dX4_takeBack_21 : decode cX4_takeBack 21 = .ok (.getfield 127, 3) := by decide +kernel
theorem dX4_takeBack_24 : decode cX4_takeBack 24 = .ok (.iload_n 3, 1) := by decide +kernel
theorem dX4_takeBack_25 : decode cX4_takeBack 25 = .ok (.isub, 1) := by decide +kernel
theorem dX4_takeBack_26 : decode cX4_takeBack 26 = .ok (.putfield 127, 3) := by decide +kernel
theorem dX4_takeBack_29 : decode cX4_takeBack 29 = .ok (.aload_n 2, 1) := by decide +kernel
theorem dX4_takeBack_30 : decode cX4_takeBack 30 = .ok (.getfield 229, 3) := by decide +kernel
theorem dX4_takeBack_33 : decode cX4_takeBack 33 = .ok (.astore 7, 2) := by decide +kernel
theorem dX4_takeBack_35 : decode cX4_takeBack 35 = .ok (.aload 7, 2) := by decide +kernel
theorem dX4_takeBack_37 : decode cX4_takeBack 37 = .ok (.aload 7, 2) := by decide +kernel
theorem dX4_takeBack_39 : decode cX4_takeBack 39 = .ok (.iload 4, 2) := by decide +kernel
theorem dX4_takeBack_41 : decode cX4_takeBack 41 = .ok (.invokevirtual 203, 3) := by decide +kernel
theorem dX4_takeBack_44 : decode cX4_takeBack 44 = .ok (.iload_n 3, 1) := by decide +kernel
theorem dX4_takeBack_45 : decode cX4_takeBack 45 = .ok (.invokevirtual 217, 3) := by decide +kernel
theorem dX4_takeBack_48 : decode cX4_takeBack 48 = .ok (.aload_n 1, 1) := by decide +kernel
theorem dX4_takeBack_49 : decode cX4_takeBack 49 = .ok (.getfield 159, 3) := by decide +kernel
theorem dX4_takeBack_52 : decode cX4_takeBack 52 = .ok (.aload_n 0, 1) := by decide +kernel
theorem dX4_takeBack_53 : decode cX4_takeBack 53 = .ok (.getfield 57, 3) := by decide +kernel
theorem dX4_takeBack_56 : decode cX4_takeBack 56 = .ok (.iload_n 3, 1) := by decide +kernel
theorem dX4_takeBack_57 : decode cX4_takeBack 57 = .ok (.iload 5, 2) := by decide +kernel
theorem dX4_takeBack_59 : decode cX4_takeBack 59 = .ok (.invokevirtual 233, 3) := by decide +kernel
theorem dX4_takeBack_62 : decode cX4_takeBack 62 = .ok (.iload 6, 2) := by decide +kernel
theorem dX4_takeBack_64 : decode cX4_takeBack 64 = .ok (.ireturn, 1) := by decide +kernel
theorem dX4_isCost_0 : decode cX4_isCost 0 = .ok (.iload_n 0, 1) := by decide +kernel
theorem dX4_isCost_1 : decode cX4_isCost 1 = .ok (.ifCond .lt 13, 3) := by decide +kernel
theorem dX4_isCost_4 : decode cX4_isCost 4 = .ok (.iload_n 0, 1) := by decide +kernel
theorem dX4_isCost_5 : decode cX4_isCost 5 = .ok (.ldc 33, 2) := by decide +kernel
theorem dX4_isCost_7 : decode cX4_isCost 7 = .ok (.if_icmp .gt 7, 3) := by decide +kernel
theorem dX4_isCost_10 : decode cX4_isCost 10 = .ok (.iconst 1, 1) := by decide +kernel
theorem dX4_isCost_11 : decode cX4_isCost 11 = .ok (.goto 4, 3) := by decide +kernel
theorem dX4_isCost_14 : decode cX4_isCost 14 = .ok (.iconst 0, 1) := by decide +kernel
theorem dX4_isCost_15 : decode cX4_isCost 15 = .ok (.ireturn, 1) := by decide +kernel
theorem dX4_isUnits_0 : decode cX4_isUnits 0 = .ok (.iload_n 0, 1) := by decide +kernel
theorem dX4_isUnits_1 : decode cX4_isUnits 1 = .ok (.iconst 1, 1) := by decide +kernel
theorem dX4_isUnits_2 : decode cX4_isUnits 2 = .ok (.if_icmp .lt 13, 3) := by decide +kernel
theorem dX4_isUnits_5 : decode cX4_isUnits 5 = .ok (.iload_n 0, 1) := by decide +kernel
theorem dX4_isUnits_6 : decode cX4_isUnits 6 = .ok (.bipush 20, 2) := by decide +kernel
theorem dX4_isUnits_8 : decode cX4_isUnits 8 = .ok (.if_icmp .gt 7, 3) := by decide +kernel
theorem dX4_isUnits_11 : decode cX4_isUnits 11 = .ok (.iconst 1, 1) := by decide +kernel
theorem dX4_isUnits_12 : decode cX4_isUnits 12 = .ok (.goto 4, 3) := by decide +kernel
theorem dX4_isUnits_15 : decode cX4_isUnits 15 = .ok (.iconst 0, 1) := by decide +kernel
theorem dX4_isUnits_16 : decode cX4_isUnits 16 = .ok (.ireturn, 1) := by decide +kernel
theorem dX4_isCondition_0 : decode cX4_isCondition 0 = .ok (.iload_n 0, 1) := by decide +kernel
theorem dX4_isCondition_1 : decode cX4_isCondition 1 = .ok (.ifCond .lt 12, 3) := by decide +kernel
theorem dX4_isCondition_4 : decode cX4_isCondition 4 = .ok (.iload_n 0, 1) := by decide +kernel
theorem dX4_isCondition_5 : decode cX4_isCondition 5 = .ok (.iconst 4, 1) := by decide +kernel
theorem dX4_isCondition_6 : decode cX4_isCondition 6 = .ok (.if_icmp .ge 7, 3) := by decide +kernel
theorem dX4_isCondition_9 : decode cX4_isCondition 9 = .ok (.iconst 1, 1) := by decide +kernel
theorem dX4_isCondition_10 : decode cX4_isCondition 10 = .ok (.goto 4, 3) := by decide +kernel
theorem dX4_isCondition_13 : decode cX4_isCondition 13 = .ok (.iconst 0, 1) := by decide +kernel
theorem dX4_isCondition_14 : decode cX4_isCondition 14 = .ok (.ireturn, 1) := by decide +kernel
theorem dX4_discountPercent_0 : decode cX4_discountPercent 0 = .ok (.iload_n 0, 1) := by decide +kernel
theorem dX4_discountPercent_1 : decode cX4_discountPercent 1 = .ok (.sipush 5000, 3) := by decide +kernel
theorem dX4_discountPercent_4 : decode cX4_discountPercent 4 = .ok (.if_icmp .ge 5, 3) := by decide +kernel
theorem dX4_discountPercent_7 : decode cX4_discountPercent 7 = .ok (.iconst 0, 1) := by decide +kernel
theorem dX4_discountPercent_8 : decode cX4_discountPercent 8 = .ok (.ireturn, 1) := by decide +kernel
theorem dX4_discountPercent_9 : decode cX4_discountPercent 9 = .ok (.iload_n 0, 1) := by decide +kernel
theorem dX4_discountPercent_10 : decode cX4_discountPercent 10 = .ok (.sipush 10000, 3) := by decide +kernel
theorem dX4_discountPercent_13 : decode cX4_discountPercent 13 = .ok (.if_icmp .ge 5, 3) := by decide +kernel
theorem dX4_discountPercent_16 : decode cX4_discountPercent 16 = .ok (.iconst 5, 1) := by decide +kernel
theorem dX4_discountPercent_17 : decode cX4_discountPercent 17 = .ok (.ireturn, 1) := by decide +kernel
theorem dX4_discountPercent_18 : decode cX4_discountPercent 18 = .ok (.iload_n 0, 1) := by decide +kernel
theorem dX4_discountPercent_19 : decode cX4_discountPercent 19 = .ok (.sipush 20000, 3) := by decide +kernel
theorem dX4_discountPercent_22 : decode cX4_discountPercent 22 = .ok (.if_icmp .ge 8, 3) := by decide +kernel
theorem dX4_discountPercent_25 : decode cX4_discountPercent 25 = .ok (.bipush 10, 2) := by decide +kernel
theorem dX4_discountPercent_27 : decode cX4_discountPercent 27 = .ok (.goto 5, 3) := by decide +kernel
theorem dX4_discountPercent_30 : decode cX4_discountPercent 30 = .ok (.bipush 15, 2) := by decide +kernel
theorem dX4_discountPercent_32 : decode cX4_discountPercent 32 = .ok (.ireturn, 1) := by decide +kernel
set_option maxRecDepth 20000 in
theorem ggX4_netOf_X4_discountPercent : GoodIn wsX4_netOf wsX4_discountPercent := goodIn_r _ [4] (by decide +kernel) (by decide +kernel)
set_option maxRecDepth 20000 in
theorem gX4_netOf_X4_discountPercent : GoodIn wsX4_netOf (va_wsS RX4 237 yX4_discountPercent wsX4_discountPercent) := goodIn_app (goodIn_of _ (by decide +kernel)) ggX4_netOf_X4_discountPercent
theorem dX4_netOf_0 : decode cX4_netOf 0 = .ok (.iload_n 0, 1) := by decide +kernel
theorem dX4_netOf_1 : decode cX4_netOf 1 = .ok (.iload_n 0, 1) := by decide +kernel
theorem dX4_netOf_2 : decode cX4_netOf 2 = .ok (.iload_n 0, 1) := by decide +kernel
theorem dX4_netOf_3 : decode cX4_netOf 3 = .ok (.invokestatic 237, 3) := by decide +kernel
theorem dX4_netOf_6 : decode cX4_netOf 6 = .ok (.imul, 1) := by decide +kernel
theorem dX4_netOf_7 : decode cX4_netOf 7 = .ok (.bipush 100, 2) := by decide +kernel
theorem dX4_netOf_9 : decode cX4_netOf 9 = .ok (.idiv, 1) := by decide +kernel
theorem dX4_netOf_10 : decode cX4_netOf 10 = .ok (.isub, 1) := by decide +kernel
theorem dX4_netOf_11 : decode cX4_netOf 11 = .ok (.ireturn, 1) := by decide +kernel
theorem dX4_feeOn_0 : decode cX4_feeOn 0 = .ok (.iload_n 2, 1) := by decide +kernel
theorem dX4_feeOn_1 : decode cX4_feeOn 1 = .ok (.iconst 3, 1) := by decide +kernel
theorem dX4_feeOn_2 : decode cX4_feeOn 2 = .ok (.if_icmp .eq 9, 3) := by decide +kernel
theorem dX4_feeOn_5 : decode cX4_feeOn 5 = .ok (.iload_n 1, 1) := by decide +kernel
theorem dX4_feeOn_6 : decode cX4_feeOn 6 = .ok (.bipush 14, 2) := by decide +kernel
theorem dX4_feeOn_8 : decode cX4_feeOn 8 = .ok (.if_icmp .gt 5, 3) := by decide +kernel
theorem dX4_feeOn_11 : decode cX4_feeOn 11 = .ok (.iconst 0, 1) := by decide +kernel
theorem dX4_feeOn_12 : decode cX4_feeOn 12 = .ok (.ireturn, 1) := by decide +kernel
theorem dX4_feeOn_13 : decode cX4_feeOn 13 = .ok (.iload_n 0, 1) := by decide +kernel
theorem dX4_feeOn_14 : decode cX4_feeOn 14 = .ok (.iload_n 1, 1) := by decide +kernel
theorem dX4_feeOn_15 : decode cX4_feeOn 15 = .ok (.bipush 30, 2) := by decide +kernel
theorem dX4_feeOn_17 : decode cX4_feeOn 17 = .ok (.if_icmp .gt 8, 3) := by decide +kernel
theorem dX4_feeOn_20 : decode cX4_feeOn 20 = .ok (.bipush 15, 2) := by decide +kernel
theorem dX4_feeOn_22 : decode cX4_feeOn 22 = .ok (.goto 5, 3) := by decide +kernel
theorem dX4_feeOn_25 : decode cX4_feeOn 25 = .ok (.bipush 50, 2) := by decide +kernel
theorem dX4_feeOn_27 : decode cX4_feeOn 27 = .ok (.imul, 1) := by decide +kernel
theorem dX4_feeOn_28 : decode cX4_feeOn 28 = .ok (.bipush 100, 2) := by decide +kernel
theorem dX4_feeOn_30 : decode cX4_feeOn 30 = .ok (.idiv, 1) := by decide +kernel
theorem dX4_feeOn_31 : decode cX4_feeOn 31 = .ok (.ireturn, 1) := by decide +kernel
theorem dX5_init_0 : decode cX5_init 0 = .ok (.aload_n 0, 1) := by decide +kernel
theorem dX5_init_1 : decode cX5_init 1 = .ok (.invokespecial 1, 3) := by decide +kernel
theorem dX5_init_4 : decode cX5_init 4 = .ok (.aload_n 0, 1) := by decide +kernel
theorem dX5_init_5 : decode cX5_init 5 = .ok (.bipush 10, 2) := by decide +kernel
theorem dX5_init_7 : decode cX5_init 7 = .ok (.newarray .int, 2) := by decide +kernel
theorem dX5_init_9 : decode cX5_init 9 = .ok (.putfield 7, 3) := by decide +kernel
theorem dX5_init_12 : decode cX5_init 12 = .ok (.aload_n 0, 1) := by decide +kernel
theorem dX5_init_13 : decode cX5_init 13 = .ok (.bipush 10, 2) := by decide +kernel
theorem dX5_init_15 : decode cX5_init 15 = .ok (.newarray .int, 2) := by decide +kernel
theorem dX5_init_17 : decode cX5_init 17 = .ok (.putfield 13, 3) := by decide +kernel
theorem dX5_init_20 : decode cX5_init 20 = .ok (.aload_n 0, 1) := by decide +kernel
theorem dX5_init_21 : decode cX5_init 21 = .ok (.bipush 10, 2) := by decide +kernel
theorem dX5_init_23 : decode cX5_init 23 = .ok (.newarray .int, 2) := by decide +kernel
theorem dX5_init_25 : decode cX5_init 25 = .ok (.putfield 16, 3) := by decide +kernel
theorem dX5_init_28 : decode cX5_init 28 = .ok (.aload_n 0, 1) := by decide +kernel
theorem dX5_init_29 : decode cX5_init 29 = .ok (.bipush 50, 2) := by decide +kernel
theorem dX5_init_31 : decode cX5_init 31 = .ok (.newarray .int, 2) := by decide +kernel
theorem dX5_init_33 : decode cX5_init 33 = .ok (.putfield 19, 3) := by decide +kernel
theorem dX5_init_36 : decode cX5_init 36 = .ok (.aload_n 0, 1) := by decide +kernel
theorem dX5_init_37 : decode cX5_init 37 = .ok (.bipush 40, 2) := by decide +kernel
theorem dX5_init_39 : decode cX5_init 39 = .ok (.newarray .int, 2) := by decide +kernel
theorem dX5_init_41 : decode cX5_init 41 = .ok (.putfield 22, 3) := by decide +kernel
theorem dX5_init_44 : decode cX5_init 44 = .ok (.aload_n 0, 1) := by decide +kernel
theorem dX5_init_45 : decode cX5_init 45 = .ok (.bipush 40, 2) := by decide +kernel
theorem dX5_init_47 : decode cX5_init 47 = .ok (.newarray .int, 2) := by decide +kernel
theorem dX5_init_49 : decode cX5_init 49 = .ok (.putfield 25, 3) := by decide +kernel
theorem dX5_init_52 : decode cX5_init 52 = .ok (.aload_n 0, 1) := by decide +kernel
theorem dX5_init_53 : decode cX5_init 53 = .ok (.bipush 40, 2) := by decide +kernel
theorem dX5_init_55 : decode cX5_init 55 = .ok (.newarray .int, 2) := by decide +kernel
theorem dX5_init_57 : decode cX5_init 57 = .ok (.putfield 28, 3) := by decide +kernel
theorem dX5_init_60 : decode cX5_init 60 = .ok (.aload_n 0, 1) := by decide +kernel
theorem dX5_init_61 : decode cX5_init 61 = .ok (.bipush 40, 2) := by decide +kernel
theorem dX5_init_63 : decode cX5_init 63 = .ok (.newarray .int, 2) := by decide +kernel
theorem dX5_init_65 : decode cX5_init 65 = .ok (.putfield 31, 3) := by decide +kernel
theorem dX5_init_68 : decode cX5_init 68 = .ok (.aload_n 0, 1) := by decide +kernel
theorem dX5_init_69 : decode cX5_init 69 = .ok (.bipush 40, 2) := by decide +kernel
theorem dX5_init_71 : decode cX5_init 71 = .ok (.newarray .int, 2) := by decide +kernel
theorem dX5_init_73 : decode cX5_init 73 = .ok (.putfield 34, 3) := by decide +kernel
theorem dX5_init_76 : decode cX5_init 76 = .ok (.aload_n 0, 1) := by decide +kernel
theorem dX5_init_77 : decode cX5_init 77 = .ok (.bipush 40, 2) := by decide +kernel
theorem dX5_init_79 : decode cX5_init 79 = .ok (.newarray .int, 2) := by decide +kernel
theorem dX5_init_81 : decode cX5_init 81 = .ok (.putfield 37, 3) := by decide +kernel
theorem dX5_init_84 : decode cX5_init 84 = .ok (.aload_n 0, 1) := by decide +kernel
theorem dX5_init_85 : decode cX5_init 85 = .ok (.bipush 40, 2) := by decide +kernel
theorem dX5_init_87 : decode cX5_init 87 = .ok (.newarray .int, 2) := by decide +kernel
theorem dX5_init_89 : decode cX5_init 89 = .ok (.putfield 40, 3) := by decide +kernel
theorem dX5_init_92 : decode cX5_init 92 = .ok (.aload_n 0, 1) := by decide +kernel
theorem dX5_init_93 : decode cX5_init 93 = .ok (.sipush 240, 3) := by decide +kernel
theorem dX5_init_96 : decode cX5_init 96 = .ok (.newarray .int, 2) := by decide +kernel
theorem dX5_init_98 : decode cX5_init 98 = .ok (.putfield 43, 3) := by decide +kernel
theorem dX5_init_101 : decode cX5_init 101 = .ok (.aload_n 0, 1) := by decide +kernel
theorem dX5_init_102 : decode cX5_init 102 = .ok (.sipush 240, 3) := by decide +kernel
theorem dX5_init_105 : decode cX5_init 105 = .ok (.newarray .int, 2) := by decide +kernel
theorem dX5_init_107 : decode cX5_init 107 = .ok (.putfield 46, 3) := by decide +kernel
theorem dX5_init_110 : decode cX5_init 110 = .ok (.aload_n 0, 1) := by decide +kernel
theorem dX5_init_111 : decode cX5_init 111 = .ok (.sipush 240, 3) := by decide +kernel
theorem dX5_init_114 : decode cX5_init 114 = .ok (.newarray .int, 2) := by decide +kernel
theorem dX5_init_116 : decode cX5_init 116 = .ok (.putfield 49, 3) := by decide +kernel
theorem dX5_init_119 : decode cX5_init 119 = .ok (.aload_n 0, 1) := by decide +kernel
theorem dX5_init_120 : decode cX5_init 120 = .ok (.sipush 4800, 3) := by decide +kernel
theorem dX5_init_123 : decode cX5_init 123 = .ok (.newarray .int, 2) := by decide +kernel
theorem dX5_init_125 : decode cX5_init 125 = .ok (.putfield 52, 3) := by decide +kernel
theorem dX5_init_128 : decode cX5_init 128 = .ok (.aload_n 0, 1) := by decide +kernel
theorem dX5_init_129 : decode cX5_init 129 = .ok (.sipush 4800, 3) := by decide +kernel
theorem dX5_init_132 : decode cX5_init 132 = .ok (.newarray .int, 2) := by decide +kernel
theorem dX5_init_134 : decode cX5_init 134 = .ok (.putfield 55, 3) := by decide +kernel
theorem dX5_init_137 : decode cX5_init 137 = .ok (.aload_n 0, 1) := by decide +kernel
theorem dX5_init_138 : decode cX5_init 138 = .ok (.sipush 4800, 3) := by decide +kernel
theorem dX5_init_141 : decode cX5_init 141 = .ok (.newarray .int, 2) := by decide +kernel
theorem dX5_init_143 : decode cX5_init 143 = .ok (.putfield 58, 3) := by decide +kernel
theorem dX5_init_146 : decode cX5_init 146 = .ok (.aload_n 0, 1) := by decide +kernel
theorem dX5_init_147 : decode cX5_init 147 = .ok (.sipush 4800, 3) := by decide +kernel
theorem dX5_init_150 : decode cX5_init 150 = .ok (.newarray .boolean, 2) := by decide +kernel
theorem dX5_init_152 : decode cX5_init 152 = .ok (.putfield 61, 3) := by decide +kernel
theorem dX5_init_155 : decode cX5_init 155 = .ok (.aload_n 0, 1) := by decide +kernel
theorem dX5_init_156 : decode cX5_init 156 = .ok (.bipush 6, 2) := by decide +kernel
theorem dX5_init_158 : decode cX5_init 158 = .ok (.newarray .long, 2) := by decide +kernel
theorem dX5_init_160 : decode cX5_init 160 = .ok (.putfield 65, 3) := by decide +kernel
theorem dX5_init_163 : decode cX5_init 163 = .ok (.aload_n 0, 1) := by decide +kernel
theorem dX5_init_164 : decode cX5_init 164 = .ok (.bipush 6, 2) := by decide +kernel
theorem dX5_init_166 : decode cX5_init 166 = .ok (.newarray .int, 2) := by decide +kernel
theorem dX5_init_168 : decode cX5_init 168 = .ok (.putfield 69, 3) := by decide +kernel
theorem dX5_init_171 : decode cX5_init 171 = .ok (.iconst 0, 1) := by decide +kernel
theorem dX5_init_172 : decode cX5_init 172 = .ok (.istore_n 1, 1) := by decide +kernel
theorem dX5_init_173 : decode cX5_init 173 = .ok (.iload_n 1, 1) := by decide +kernel
theorem dX5_init_174 : decode cX5_init 174 = .ok (.bipush 10, 2) := by decide +kernel
theorem dX5_init_176 : decode cX5_init 176 = .ok (.if_icmp .ge 36, 3) := by decide +kernel
theorem dX5_init_179 : decode cX5_init 179 = .ok (.aload_n 0, 1) := by decide +kernel
theorem dX5_init_180 : decode cX5_init 180 = .ok (.getfield 7, 3) := by decide +kernel
theorem dX5_init_183 : decode cX5_init 183 = .ok (.iload_n 1, 1) := by decide +kernel
theorem dX5_init_184 : decode cX5_init 184 = .ok (.sipush 1000, 3) := by decide +kernel
theorem dX5_init_187 : decode cX5_init 187 = .ok (.iastore, 1) := by decide +kernel
theorem dX5_init_188 : decode cX5_init 188 = .ok (.aload_n 0, 1) := by decide +kernel
theorem dX5_init_189 : decode cX5_init 189 = .ok (.getfield 13, 3) := by decide +kernel
theorem dX5_init_192 : decode cX5_init 192 = .ok (.iload_n 1, 1) := by decide +kernel
theorem dX5_init_193 : decode cX5_init 193 = .ok (.sipush 200, 3) := by decide +kernel
theorem dX5_init_196 : decode cX5_init 196 = .ok (.iastore, 1) := by decide +kernel
theorem dX5_init_197 : decode cX5_init 197 = .ok (.aload_n 0, 1) := by decide +kernel
theorem dX5_init_198 : decode cX5_init 198 = .ok (.getfield 16, 3) := by decide +kernel
theorem dX5_init_201 : decode cX5_init 201 = .ok (.iload_n 1, 1) := by decide +kernel
theorem dX5_init_202 : decode cX5_init 202 = .ok (.sipush 300, 3) := by decide +kernel
theorem dX5_init_205 : decode cX5_init 205 = .ok (.iastore, 1) := by decide +kernel
theorem dX5_init_206 : decode cX5_init 206 = .ok (.iinc 1 1, 3) := by decide +kernel
theorem dX5_init_209 : decode cX5_init 209 = .ok (.goto (-36), 3) := by decide +kernel
theorem dX5_init_212 : decode cX5_init 212 = .ok (.return_, 1) := by decide +kernel
theorem dX5_thrown_0 : decode cX5_thrown 0 = .ok (.aload_n 0, 1) := by decide +kernel
theorem dX5_thrown_1 : decode cX5_thrown 1 = .ok (.getfield 72, 3) := by decide +kernel
theorem dX5_thrown_4 : decode cX5_thrown 4 = .ok (.ireturn, 1) := by decide +kernel
theorem dX5_goes_0 : decode cX5_goes 0 = .ok (.aload_n 0, 1) := by decide +kernel
theorem dX5_goes_1 : decode cX5_goes 1 = .ok (.iload_n 1, 1) := by decide +kernel
theorem dX5_goes_2 : decode cX5_goes 2 = .ok (.putfield 72, 3) := by decide +kernel
theorem dX5_goes_5 : decode cX5_goes 5 = .ok (.iload_n 1, 1) := by decide +kernel
theorem dX5_goes_6 : decode cX5_goes 6 = .ok (.ifCond .ne 7, 3) := by decide +kernel
theorem dX5_goes_9 : decode cX5_goes 9 = .ok (.iconst 1, 1) := by decide +kernel
theorem dX5_goes_10 : decode cX5_goes 10 = .ok (.goto 4, 3) := by decide +kernel
theorem dX5_goes_13 : decode cX5_goes 13 = .ok (.iconst 0, 1) := by decide +kernel
theorem dX5_goes_14 : decode cX5_goes 14 = .ok (.ireturn, 1) := by decide +kernel
theorem dX5_isIn_0 : decode cX5_isIn 0 = .ok (.iload_n 0, 1) := by decide +kernel
theorem dX5_isIn_1 : decode cX5_isIn 1 = .ok (.iload_n 1, 1) := by decide +kernel
theorem dX5_isIn_2 : decode cX5_isIn 2 = .ok (.if_icmp .lt 12, 3) := by decide +kernel
theorem dX5_isIn_5 : decode cX5_isIn 5 = .ok (.iload_n 0, 1) := by decide +kernel
theorem dX5_isIn_6 : decode cX5_isIn 6 = .ok (.iload_n 2, 1) := by decide +kernel
theorem dX5_isIn_7 : decode cX5_isIn 7 = .ok (.if_icmp .gt 7, 3) := by decide +kernel
theorem dX5_isIn_10 : decode cX5_isIn 10 = .ok (.iconst 1, 1) := by decide +kernel
theorem dX5_isIn_11 : decode cX5_isIn 11 = .ok (.goto 4, 3) := by decide +kernel
theorem dX5_isIn_14 : decode cX5_isIn 14 = .ok (.iconst 0, 1) := by decide +kernel
theorem dX5_isIn_15 : decode cX5_isIn 15 = .ok (.ireturn, 1) := by decide +kernel
set_option maxRecDepth 20000 in
theorem ggX5_isTen_X5_isIn : GoodIn wsX5_isTen wsX5_isIn := goodIn_r _ [4] (by decide +kernel) (by decide +kernel)
set_option maxRecDepth 20000 in
theorem gX5_isTen_X5_isIn : GoodIn wsX5_isTen (va_wsS RX5 76 yX5_isIn wsX5_isIn) := goodIn_app (goodIn_of _ (by decide +kernel)) ggX5_isTen_X5_isIn
theorem dX5_isTen_0 : decode cX5_isTen 0 = .ok (.iload_n 0, 1) := by decide +kernel
theorem dX5_isTen_1 : decode cX5_isTen 1 = .ok (.iconst 0, 1) := by decide +kernel
theorem dX5_isTen_2 : decode cX5_isTen 2 = .ok (.bipush 9, 2) := by decide +kernel
theorem dX5_isTen_4 : decode cX5_isTen 4 = .ok (.invokestatic 76, 3) := by decide +kernel
theorem dX5_isTen_7 : decode cX5_isTen 7 = .ok (.ireturn, 1) := by decide +kernel
set_option maxRecDepth 20000 in
theorem ggX5_isSale_X5_isIn : GoodIn wsX5_isSale wsX5_isIn := goodIn_r _ [5] (by decide +kernel) (by decide +kernel)
set_option maxRecDepth 20000 in
theorem gX5_isSale_X5_isIn : GoodIn wsX5_isSale (va_wsS RX5 76 yX5_isIn wsX5_isIn) := goodIn_app (goodIn_of _ (by decide +kernel)) ggX5_isSale_X5_isIn
theorem dX5_isSale_0 : decode cX5_isSale 0 = .ok (.iload_n 1, 1) := by decide +kernel
theorem dX5_isSale_1 : decode cX5_isSale 1 = .ok (.iconst 0, 1) := by decide +kernel
theorem dX5_isSale_2 : decode cX5_isSale 2 = .ok (.aload_n 0, 1) := by decide +kernel
theorem dX5_isSale_3 : decode cX5_isSale 3 = .ok (.getfield 80, 3) := by decide +kernel
theorem dX5_isSale_6 : decode cX5_isSale 6 = .ok (.iconst 1, 1) := by decide +kernel
theorem dX5_isSale_7 : decode cX5_isSale 7 = .ok (.isub, 1) := by decide +kernel
theorem dX5_isSale_8 : decode cX5_isSale 8 = .ok (.invokestatic 76, 3) := by decide +kernel
theorem dX5_isSale_11 : decode cX5_isSale 11 = .ok (.ireturn, 1) := by decide +kernel
set_option maxRecDepth 20000 in
theorem ggX5_isLine_X5_isSale : GoodIn wsX5_isLine wsX5_isSale := goodIn_r _ [6, 7, 8, 9, 5, 10, 11, 12, 13, 14, 15, 16, 17, 18, 19, 20, 21, 22, 23, 24, 25, 26, 27, 28, 29, 30, 31, 32, 33, 34, 35] (by decide +kernel) (by decide +kernel)
set_option maxRecDepth 20000 in
theorem gX5_isLine_X5_isSale : GoodIn wsX5_isLine (wsV RX5 83 RX5 yX5_isSale wsX5_isSale) := goodIn_app (goodIn_of _ (by decide +kernel)) ggX5_isLine_X5_isSale
set_option maxRecDepth 20000 in
theorem ggX5_isLine_X5_isIn : GoodIn wsX5_isLine wsX5_isIn := goodIn_r _ [10] (by decide +kernel) (by decide +kernel)
set_option maxRecDepth 20000 in
theorem gX5_isLine_X5_isIn : GoodIn wsX5_isLine (va_wsS RX5 76 yX5_isIn wsX5_isIn) := goodIn_app (goodIn_of _ (by decide +kernel)) ggX5_isLine_X5_isIn
theorem dX5_isLine_0 : decode cX5_isLine 0 = .ok (.aload_n 0, 1) := by decide +kernel
theorem dX5_isLine_1 : decode cX5_isLine 1 = .ok (.iload_n 1, 1) := by decide +kernel
theorem dX5_isLine_2 : decode cX5_isLine 2 = .ok (.invokevirtual 83, 3) := by decide +kernel
theorem dX5_isLine_5 : decode cX5_isLine 5 = .ok (.ifCond .eq 23, 3) := by decide +kernel
theorem dX5_isLine_8 : decode cX5_isLine 8 = .ok (.iload_n 2, 1) := by decide +kernel
theorem dX5_isLine_9 : decode cX5_isLine 9 = .ok (.iconst 0, 1) := by decide +kernel
theorem dX5_isLine_10 : decode cX5_isLine 10 = .ok (.aload_n 0, 1) := by decide +kernel
theorem dX5_isLine_11 : decode cX5_isLine 11 = .ok (.getfield 25, 3) := by decide +kernel
theorem dX5_isLine_14 : decode cX5_isLine 14 = .ok (.iload_n 1, 1) := by decide +kernel
theorem dX5_isLine_15 : decode cX5_isLine 15 = .ok (.iaload, 1) := by decide +kernel
theorem dX5_isLine_16 : decode cX5_isLine 16 = .ok (.iconst 1, 1) := by decide +kernel
theorem dX5_isLine_17 : decode cX5_isLine 17 = .ok (.isub, 1) := by decide +kernel
theorem dX5_isLine_18 : decode cX5_isLine 18 = .ok (.invokestatic 76, 3) := by decide +kernel
theorem dX5_isLine_21 : decode cX5_isLine 21 = .ok (.ifCond .eq 7, 3) := by decide +kernel
theorem dX5_isLine_24 : decode cX5_isLine 24 = .ok (.iconst 1, 1) := by decide +kernel
theorem dX5_isLine_25 : decode cX5_isLine 25 = .ok (.goto 4, 3) := by decide +kernel
theorem dX5_isLine_28 : decode cX5_isLine 28 = .ok (.iconst 0, 1) := by decide +kernel
theorem dX5_isLine_29 : decode cX5_isLine 29 = .ok (.ireturn, 1) := by decide +kernel
theorem dX5_isOpen_0 : decode cX5_isOpen 0 = .ok (.aload_n 0, 1) := by decide +kernel
theorem dX5_isOpen_1 : decode cX5_isOpen 1 = .ok (.getfield 28, 3) := by decide +kernel
theorem dX5_isOpen_4 : decode cX5_isOpen 4 = .ok (.iload_n 1, 1) := by decide +kernel
theorem dX5_isOpen_5 : decode cX5_isOpen 5 = .ok (.iaload, 1) := by decide +kernel
theorem dX5_isOpen_6 : decode cX5_isOpen 6 = .ok (.iconst (-1), 1) := by decide +kernel
theorem dX5_isOpen_7 : decode cX5_isOpen 7 = .ok (.if_icmp .ne 7, 3) := by decide +kernel
theorem dX5_isOpen_10 : decode cX5_isOpen 10 = .ok (.iconst 1, 1) := by decide +kernel
theorem dX5_isOpen_11 : decode cX5_isOpen 11 = .ok (.goto 4, 3) := by decide +kernel
theorem dX5_isOpen_14 : decode cX5_isOpen 14 = .ok (.iconst 0, 1) := by decide +kernel
theorem dX5_isOpen_15 : decode cX5_isOpen 15 = .ok (.ireturn, 1) := by decide +kernel
set_option maxRecDepth 20000 in
theorem ggX5_setProduct_X5_isTen : GoodIn wsX5_setProduct wsX5_isTen := goodIn_r _ [8, 9, 10, 7, 11] (by decide +kernel) (by decide +kernel)
set_option maxRecDepth 20000 in
theorem gX5_setProduct_X5_isTen : GoodIn wsX5_setProduct (va_wsS RX5 87 yX5_isTen wsX5_isTen) := goodIn_app (goodIn_of _ (by decide +kernel)) ggX5_setProduct_X5_isTen
set_option maxRecDepth 20000 in
theorem ggX5_setProduct_X5_isIn : GoodIn wsX5_setProduct wsX5_isIn := goodIn_r _ [11] (by decide +kernel) (by decide +kernel)
set_option maxRecDepth 20000 in
theorem gX5_setProduct_X5_isIn : GoodIn wsX5_setProduct (va_wsS RX5 76 yX5_isIn wsX5_isIn) := goodIn_app (goodIn_of _ (by decide +kernel)) ggX5_setProduct_X5_isIn
set_option maxRecDepth 20000 in
theorem ggX5_setProduct_X5_goes : GoodIn wsX5_setProduct wsX5_goes := goodIn_r _ [15, 16, 17, 18, 19, 20, 21, 22, 23, 24, 25, 26, 27, 28, 29, 30, 31, 32, 33, 34, 35, 36, 37, 38, 39, 40, 41] (by decide +kernel) (by decide +kernel)
set_option maxRecDepth 20000 in
theorem gX5_setProduct_X5_goes : GoodIn wsX5_setProduct (wsV RX5 91 RX5 yX5_goes wsX5_goes) := goodIn_app (goodIn_of _ (by decide +kernel)) ggX5_setProduct_X5_goes
theorem dX5_setProduct_0 : decode cX5_setProduct 0 = .ok (.aload_n 0, 1) := by decide +kernel
theorem dX5_setProduct_1 : decode cX5_setProduct 1 = .ok (.iload_n 1, 1) := by decide +kernel
theorem dX5_setProduct_2 : decode cX5_setProduct 2 = .ok (.invokestatic 87, 3) := by decide +kernel
theorem dX5_setProduct_5 : decode cX5_setProduct 5 = .ok (.ifCond .eq 38, 3) := by decide +kernel
theorem dX5_setProduct_8 : decode cX5_setProduct 8 = .ok (.iload_n 2, 1) := by decide +kernel
theorem dX5_setProduct_9 : decode cX5_setProduct 9 = .ok (.iconst 1, 1) := by decide +kernel
theorem dX5_setProduct_10 : decode cX5_setProduct 10 = .ok (.ldc 90, 2) := by decide +kernel
theorem dX5_setProduct_12 : decode cX5_setProduct 12 = .ok (.invokestatic 76, 3) := by decide +kernel
theorem dX5_setProduct_15 : decode cX5_setProduct 15 = .ok (.ifCond .eq 28, 3) := by decide +kernel
theorem dX5_setProduct_18 : decode cX5_setProduct 18 = .ok (.iload_n 3, 1) := by decide +kernel
theorem dX5_setProduct_19 : decode cX5_setProduct 19 = .ok (.iconst 0, 1) := by decide +kernel
theorem dX5_setProduct_20 : decode cX5_setProduct 20 = .ok (.ldc 90, 2) := by decide +kernel
theorem dX5_setProduct_22 : decode cX5_setProduct 22 = .ok (.invokestatic 76, 3) := by decide +kernel
theorem dX5_setProduct_25 : decode cX5_setProduct 25 = .ok (.ifCond .eq 18, 3) := by decide +kernel
theorem dX5_setProduct_28 : decode cX5_setProduct 28 = .ok (.iload 4, 2) := by decide +kernel
theorem dX5_setProduct_30 : decode cX5_setProduct 30 = .ok (.iconst 0, 1) := by decide +kernel
theorem dX5_setProduct_31 : decode cX5_setProduct 31 = .ok (.ldc 90, 2) := by decide +kernel
theorem dX5_setProduct_33 : decode cX5_setProduct 33 = .ok (.invokestatic 76, 3) := by decide +kernel
theorem dX5_setProduct_36 : decode cX5_setProduct 36 = .ok (.ifCond .eq 7, 3) := by decide +kernel
theorem dX5_setProduct_39 : decode cX5_setProduct 39 = .ok (.iconst 0, 1) := by decide +kernel
theorem dX5_setProduct_40 : decode cX5_setProduct 40 = .ok (.goto 4, 3) := by decide +kernel
theorem dX5_setProduct_43 : decode cX5_setProduct 43 = .ok (.iconst 1, 1) := by decide +kernel
theorem dX5_setProduct_44 : decode cX5_setProduct 44 = .ok (.invokevirtual 91, 3) := by decide +kernel
theorem dX5_setProduct_47 : decode cX5_setProduct 47 = .ok (.ifCond .ne 5, 3) := by decide +kernel
theorem dX5_setProduct_50 : decode cX5_setProduct 50 = .ok (.iconst 0, 1) := by decide +kernel
theorem dX5_setProduct_51 : decode cX5_setProduct 51 = .ok (.ireturn, 1) := by decide +kernel
theorem dX5_setProduct_52 : decode cX5_setProduct 52 = .ok (.aload_n 0, 1) := by decide +kernel
theorem dX5_setProduct_53 : decode cX5_setProduct 53 = .ok (.getfield 7, 3) := by decide +kernel
theorem dX5_setProduct_56 : decode cX5_setProduct 56 = .ok (.iload_n 1, 1) := by decide +kernel
theorem dX5_setProduct_57 : decode cX5_setProduct 57 = .ok (.iaload, 1) := by decide +kernel
theorem dX5_setProduct_58 : decode cX5_setProduct 58 = .ok (.istore 5, 2) := by decide +kernel
theorem dX5_setProduct_60 : decode cX5_setProduct 60 = .ok (.aload_n 0, 1) := by decide +kernel
theorem dX5_setProduct_61 : decode cX5_setProduct 61 = .ok (.getfield 7, 3) := by decide +kernel
theorem dX5_setProduct_64 : decode cX5_setProduct 64 = .ok (.iload_n 1, 1) := by decide +kernel
theorem dX5_setProduct_65 : decode cX5_setProduct 65 = .ok (.iload_n 2, 1) := by decide +kernel
theorem dX5_setProduct_66 : decode cX5_setProduct 66 = .ok (.iastore, 1) := by decide +kernel
theorem dX5_setProduct_67 : decode cX5_setProduct 67 = .ok (.aload_n 0, 1) := by decide +kernel
theorem dX5_setProduct_68 : decode cX5_setProduct 68 = .ok (.getfield 13, 3) := by decide +kernel
theorem dX5_setProduct_71 : decode cX5_setProduct 71 = .ok (.iload_n 1, 1) := by decide +kernel
theorem dX5_setProduct_72 : decode cX5_setProduct 72 = .ok (.iload_n 3, 1) := by decide +kernel
theorem dX5_setProduct_73 : decode cX5_setProduct 73 = .ok (.iastore, 1) := by decide +kernel
theorem dX5_setProduct_74 : decode cX5_setProduct 74 = .ok (.aload_n 0, 1) := by decide +kernel
theorem dX5_setProduct_75 : decode cX5_setProduct 75 = .ok (.getfield 16, 3) := by decide +kernel
theorem dX5_setProduct_78 : decode cX5_setProduct 78 = .ok (.iload_n 1, 1) := by decide +kernel
theorem dX5_setProduct_79 : decode cX5_setProduct 79 = .ok (.iload 4, 2) := by decide +kernel
theorem dX5_setProduct_81 : decode cX5_setProduct 81 = .ok (.iastore, 1) := by decide +kernel
theorem dX5_setProduct_82 : decode cX5_setProduct 82 = .ok (.iload 5, 2) := by decide +kernel
theorem dX5_setProduct_84 : decode cX5_setProduct 84 = .ok (.ireturn, 1) := by decide +kernel
set_option maxRecDepth 20000 in
theorem ggX5_pass_X5_isIn : GoodIn wsX5_pass wsX5_isIn := goodIn_r _ [6] (by decide +kernel) (by decide +kernel)
set_option maxRecDepth 20000 in
theorem gX5_pass_X5_isIn : GoodIn wsX5_pass (va_wsS RX5 76 yX5_isIn wsX5_isIn) := goodIn_app (goodIn_of _ (by decide +kernel)) ggX5_pass_X5_isIn
set_option maxRecDepth 20000 in
theorem ggX5_pass_X5_goes : GoodIn wsX5_pass wsX5_goes := goodIn_r _ [10, 11, 12, 13, 14, 15, 16, 17, 18, 19, 20, 21, 22, 23, 24, 25, 26, 27, 28, 29, 30, 31, 32, 33, 34, 35, 36] (by decide +kernel) (by decide +kernel)
set_option maxRecDepth 20000 in
theorem gX5_pass_X5_goes : GoodIn wsX5_pass (wsV RX5 91 RX5 yX5_goes wsX5_goes) := goodIn_app (goodIn_of _ (by decide +kernel)) ggX5_pass_X5_goes
theorem dX5_pass_0 : decode cX5_pass 0 = .ok (.aload_n 0, 1) := by decide +kernel
theorem dX5_pass_1 : decode cX5_pass 1 = .ok (.iload_n 1, 1) := by decide +kernel
theorem dX5_pass_2 : decode cX5_pass 2 = .ok (.iconst 1, 1) := by decide +kernel
theorem dX5_pass_3 : decode cX5_pass 3 = .ok (.sipush 365, 3) := by decide +kernel
theorem dX5_pass_6 : decode cX5_pass 6 = .ok (.invokestatic 76, 3) := by decide +kernel
theorem dX5_pass_9 : decode cX5_pass 9 = .ok (.ifCond .ne 7, 3) := by decide +kernel
theorem dX5_pass_12 : decode cX5_pass 12 = .ok (.iconst 1, 1) := by decide +kernel
theorem dX5_pass_13 : decode cX5_pass 13 = .ok (.goto 19, 3) := by decide +kernel
theorem dX5_pass_16 : decode cX5_pass 16 = .ok (.aload_n 0, 1) := by decide +kernel
theorem dX5_pass_17 : decode cX5_pass 17 = .ok (.getfield 94, 3) := by decide +kernel
theorem dX5_pass_20 : decode cX5_pass 20 = .ok (.iload_n 1, 1) := by decide +kernel
theorem dX5_pass_21 : decode cX5_pass 21 = .ok (.iadd, 1) := by decide +kernel
theorem dX5_pass_22 : decode cX5_pass 22 = .ok (.ldc 90, 2) := by decide +kernel
theorem dX5_pass_24 : decode cX5_pass 24 = .ok (.if_icmp .le 7, 3) := by decide +kernel
theorem dX5_pass_27 : decode cX5_pass 27 = .ok (.iconst 2, 1) := by decide +kernel
theorem dX5_pass_28 : decode cX5_pass 28 = .ok (.goto 4, 3) := by decide +kernel
theorem dX5_pass_31 : decode cX5_pass 31 = .ok (.iconst 0, 1) := by decide +kernel
theorem dX5_pass_32 : decode cX5_pass 32 = .ok (.invokevirtual 91, 3) := by decide +kernel
theorem dX5_pass_35 : decode cX5_pass 35 = .ok (.ifCond .ne 5, 3) := by decide +kernel
theorem dX5_pass_38 : decode cX5_pass 38 = .ok (.iconst 0, 1) := by decide +kernel
theorem dX5_pass_39 : decode cX5_pass 39 = .ok (.ireturn, 1) := by decide +kernel
theorem dX5_pass_40 : decode cX5_pass 40 = .ok (.aload_n 0, 1) := by decide +kernel
theorem dX5_pass_41 : decode cX5_pass 41 = .ok (.dup, 1) := by decide +kernel
theorem dX5_pass_42 : decode cX5_pass 42 = .ok (.getfield 94, 3) := by decide +kernel
theorem dX5_pass_45 : decode cX5_pass 45 = .ok (.iload_n 1, 1) := by decide +kernel
theorem dX5_pass_46 : decode cX5_pass 46 = .ok (.iadd, 1) := by decide +kernel
theorem dX5_pass_47 : decode cX5_pass 47 = .ok (.putfield 94, 3) := by decide +kernel
theorem dX5_pass_50 : decode cX5_pass 50 = .ok (.aload_n 0, 1) := by decide +kernel
theorem dX5_pass_51 : decode cX5_pass 51 = .ok (.getfield 94, 3) := by decide +kernel
theorem dX5_pass_54 : decode cX5_pass 54 = .ok (.ireturn, 1) := by decide +kernel
theorem dX5_opens_0 : decode cX5_opens 0 = .ok (.aload_n 0, 1) := by decide +kernel
theorem dX5_opens_1 : decode cX5_opens 1 = .ok (.getfield 22, 3) := by decide +kernel
theorem dX5_opens_4 : decode cX5_opens 4 = .ok (.aload_n 0, 1) := by decide +kernel
theorem dX5_opens_5 : decode cX5_opens 5 = .ok (.getfield 80, 3) := by decide +kernel
theorem dX5_opens_8 : decode cX5_opens 8 = .ok (.iload_n 1, 1) := by decide +kernel
theorem dX5_opens_9 : decode cX5_opens 9 = .ok (.iastore, 1) := by decide +kernel
theorem dX5_opens_10 : decode cX5_opens 10 = .ok (.aload_n 0, 1) := by decide +kernel
theorem dX5_opens_11 : decode cX5_opens 11 = .ok (.getfield 25, 3) := by decide +kernel
theorem dX5_opens_14 : decode cX5_opens 14 = .ok (.aload_n 0, 1) := by decide +kernel
theorem dX5_opens_15 : decode cX5_opens 15 = .ok (.getfield 80, 3) := by decide +kernel
theorem dX5_opens_18 : decode cX5_opens 18 = .ok (.iconst 0, 1) := by decide +kernel
theorem dX5_opens_19 : decode cX5_opens 19 = .ok (.iastore, 1) := by decide +kernel
theorem dX5_opens_20 : decode cX5_opens 20 = .ok (.aload_n 0, 1) := by decide +kernel
theorem dX5_opens_21 : decode cX5_opens 21 = .ok (.getfield 28, 3) := by decide +kernel
theorem dX5_opens_24 : decode cX5_opens 24 = .ok (.aload_n 0, 1) := by decide +kernel
theorem dX5_opens_25 : decode cX5_opens 25 = .ok (.getfield 80, 3) := by decide +kernel
theorem dX5_opens_28 : decode cX5_opens 28 = .ok (.iconst (-1), 1) := by decide +kernel
theorem dX5_opens_29 : decode cX5_opens 29 = .ok (.iastore, 1) := by decide +kernel
theorem dX5_opens_30 : decode cX5_opens 30 = .ok (.aload_n 0, 1) := by decide +kernel
theorem dX5_opens_31 : decode cX5_opens 31 = .ok (.getfield 31, 3) := by decide +kernel
theorem dX5_opens_34 : decode cX5_opens 34 = .ok (.aload_n 0, 1) := by decide +kernel
theorem dX5_opens_35 : decode cX5_opens 35 = .ok (.getfield 80, 3) := by decide +kernel
theorem dX5_opens_38 : decode cX5_opens 38 = .ok (.iconst 0, 1) := by decide +kernel
theorem dX5_opens_39 : decode cX5_opens 39 = .ok (.iastore, 1) := by decide +kernel
theorem dX5_opens_40 : decode cX5_opens 40 = .ok (.aload_n 0, 1) := by decide +kernel
theorem dX5_opens_41 : decode cX5_opens 41 = .ok (.getfield 34, 3) := by decide +kernel
theorem dX5_opens_44 : decode cX5_opens 44 = .ok (.aload_n 0, 1) := by decide +kernel
theorem dX5_opens_45 : decode cX5_opens 45 = .ok (.getfield 80, 3) := by decide +kernel
theorem dX5_opens_48 : decode cX5_opens 48 = .ok (.iconst 0, 1) := by decide +kernel
theorem dX5_opens_49 : decode cX5_opens 49 = .ok (.iastore, 1) := by decide +kernel
theorem dX5_opens_50 : decode cX5_opens 50 = .ok (.aload_n 0, 1) := by decide +kernel
theorem dX5_opens_51 : decode cX5_opens 51 = .ok (.getfield 37, 3) := by decide +kernel
theorem dX5_opens_54 : decode cX5_opens 54 = .ok (.aload_n 0, 1) := by decide +kernel
theorem dX5_opens_55 : decode cX5_opens 55 = .ok (.getfield 80, 3) := by decide +kernel
theorem dX5_opens_58 : decode cX5_opens 58 = .ok (.aload_n 0, 1) := by decide +kernel
theorem dX5_opens_59 : decode cX5_opens 59 = .ok (.getfield 80, 3) := by decide +kernel
theorem dX5_opens_62 : decode cX5_opens 62 = .ok (.iastore, 1) := by decide +kernel
theorem dX5_opens_63 : decode cX5_opens 63 = .ok (.aload_n 0, 1) := by decide +kernel
theorem dX5_opens_64 : decode cX5_opens 64 = .ok (.getfield 40, 3) := by decide +kernel
theorem dX5_opens_67 : decode cX5_opens 67 = .ok (.aload_n 0, 1) := by decide +kernel
theorem dX5_opens_68 : decode cX5_opens 68 = .ok (.getfield 80, 3) := by decide +kernel
theorem dX5_opens_71 : decode cX5_opens 71 = .ok (.iconst 0, 1) := by decide +kernel
theorem dX5_opens_72 : decode cX5_opens 72 = .ok (.iastore, 1) := by decide +kernel
theorem dX5_opens_73 : decode cX5_opens 73 = .ok (.aload_n 0, 1) := by decide +kernel
theorem dX5_opens_74 : decode cX5_opens 74 = .ok (.dup, 1) := by decide +kernel
theorem dX5_opens_75 : decode cX5_opens 75 = .ok (.getfield 80, 3) := by decide +kernel
theorem dX5_opens_78 : decode cX5_opens 78 = .ok (.iconst 1, 1) := by decide +kernel
theorem dX5_opens_79 : decode cX5_opens 79 = .ok (.iadd, 1) := by decide +kernel
theorem dX5_opens_80 : decode cX5_opens 80 = .ok (.putfield 80, 3) := by decide +kernel
theorem dX5_opens_83 : decode cX5_opens 83 = .ok (.aload_n 0, 1) := by decide +kernel
theorem dX5_opens_84 : decode cX5_opens 84 = .ok (.getfield 80, 3) := by decide +kernel
theorem dX5_opens_87 : decode cX5_opens 87 = .ok (.iconst 1, 1) := by decide +kernel
theorem dX5_opens_88 : decode cX5_opens 88 = .ok (.isub, 1) := by decide +kernel
theorem dX5_opens_89 : decode cX5_opens 89 = .ok (.ireturn, 1) := by decide +kernel
theorem dX5_adds_0 : decode cX5_adds 0 = .ok (.bipush 6, 2) := by decide +kernel
theorem dX5_adds_2 : decode cX5_adds 2 = .ok (.iload_n 1, 1) := by decide +kernel
theorem dX5_adds_3 : decode cX5_adds 3 = .ok (.imul, 1) := by decide +kernel
theorem dX5_adds_4 : decode cX5_adds 4 = .ok (.aload_n 0, 1) := by decide +kernel
theorem dX5_adds_5 : decode cX5_adds 5 = .ok (.getfield 25, 3) := by decide +kernel
theorem dX5_adds_8 : decode cX5_adds 8 = .ok (.iload_n 1, 1) := by decide +kernel
theorem dX5_adds_9 : decode cX5_adds 9 = .ok (.iaload, 1) := by decide +kernel
theorem dX5_adds_10 : decode cX5_adds 10 = .ok (.iadd, 1) := by decide +kernel
theorem dX5_adds_11 : decode cX5_adds 11 = .ok (.istore 4, 2) := by decide +kernel
theorem dX5_adds_13 : decode cX5_adds 13 = .ok (.aload_n 0, 1) := by decide +kernel
theorem dX5_adds_14 : decode cX5_adds 14 = .ok (.getfield 43, 3) := by decide +kernel
theorem dX5_adds_17 : decode cX5_adds 17 = .ok (.iload 4, 2) := by decide +kernel
theorem dX5_adds_19 : decode cX5_adds 19 = .ok (.iload_n 2, 1) := by decide +kernel
theorem dX5_adds_20 : decode cX5_adds 20 = .ok (.iastore, 1) := by decide +kernel
theorem dX5_adds_21 : decode cX5_adds 21 = .ok (.aload_n 0, 1) := by decide +kernel
theorem dX5_adds_22 : decode cX5_adds 22 = .ok (.getfield 46, 3) := by decide +kernel
theorem dX5_adds_25 : decode cX5_adds 25 = .ok (.iload 4, 2) := by decide +kernel
theorem dX5_adds_27 : decode cX5_adds 27 = .ok (.aload_n 0, 1) := by decide +kernel
theorem dX5_adds_28 : decode cX5_adds 28 = .ok (.getfield 7, 3) := by decide +kernel
theorem dX5_adds_31 : decode cX5_adds 31 = .ok (.iload_n 2, 1) := by decide +kernel
theorem dX5_adds_32 : decode cX5_adds 32 = .ok (.iaload, 1) := by decide +kernel
theorem dX5_adds_33 : decode cX5_adds 33 = .ok (.iastore, 1) := by decide +kernel
theorem dX5_adds_34 : decode cX5_adds 34 = .ok (.aload_n 0, 1) := by decide +kernel
theorem dX5_adds_35 : decode cX5_adds 35 = .ok (.getfield 49, 3) := by decide +kernel
theorem dX5_adds_38 : decode cX5_adds 38 = .ok (.iload 4, 2) := by decide +kernel
theorem dX5_adds_40 : decode cX5_adds 40 = .ok (.iload_n 3, 1) := by decide +kernel
theorem dX5_adds_41 : decode cX5_adds 41 = .ok (.iastore, 1) := by decide +kernel
theorem dX5_adds_42 : decode cX5_adds 42 = .ok (.aload_n 0, 1) := by decide +kernel
theorem dX5_adds_43 : decode cX5_adds 43 = .ok (.getfield 25, 3) := by decide +kernel
theorem dX5_adds_46 : decode cX5_adds 46 = .ok (.iload_n 1, 1) := by decide +kernel
theorem dX5_adds_47 : decode cX5_adds 47 = .ok (.dup2, 1) := by decide +kernel
theorem dX5_adds_48 : decode cX5_adds 48 = .ok (.iaload, 1) := by decide +kernel
theorem dX5_adds_49 : decode cX5_adds 49 = .ok (.iconst 1, 1) := by decide +kernel
theorem dX5_adds_50 : decode cX5_adds 50 = .ok (.iadd, 1) := by decide +kernel
theorem dX5_adds_51 : decode cX5_adds 51 = .ok (.iastore, 1) := by decide +kernel
theorem dX5_adds_52 : decode cX5_adds 52 = .ok (.aload_n 0, 1) := by decide +kernel
theorem dX5_adds_53 : decode cX5_adds 53 = .ok (.getfield 25, 3) := by decide +kernel
theorem dX5_adds_56 : decode cX5_adds 56 = .ok (.iload_n 1, 1) := by decide +kernel
theorem dX5_adds_57 : decode cX5_adds 57 = .ok (.iaload, 1) := by decide +kernel
theorem dX5_adds_58 : decode cX5_adds 58 = .ok (.iconst 1, 1) := by decide +kernel
theorem dX5_adds_59 : decode cX5_adds 59 = .ok (.isub, 1) := by decide +kernel
theorem dX5_adds_60 : decode cX5_adds 60 = .ok (.ireturn, 1) := by decide +kernel
set_option maxRecDepth 20000 in
theorem ggX5_pays_X5_goods : GoodIn wsX5_pays wsX5_goods := goodIn_r _ [8, 9, 10, 11, 12, 7, 13, 14, 15, 23, 24, 25, 26, 27, 28, 29, 30, 31, 32, 33, 34, 35, 36, 37, 38, 39, 40, 41, 42, 43, 44, 45, 46, 47] (by decide +kernel) (by decide +kernel)
set_option maxRecDepth 20000 in
theorem gX5_pays_X5_goods : GoodIn wsX5_pays (wsV RX5 97 RX5 yX5_goods wsX5_goods) := goodIn_app (goodIn_of _ (by decide +kernel)) ggX5_pays_X5_goods
set_option maxRecDepth 20000 in
theorem ggX5_pays_X5_net : GoodIn wsX5_pays wsX5_net := goodIn_r _ [18, 19, 20, 21, 22] (by decide +kernel) (by decide +kernel)
set_option maxRecDepth 20000 in
theorem gX5_pays_X5_net : GoodIn wsX5_pays (va_wsS RX5 101 yX5_net wsX5_net) := goodIn_app (goodIn_of _ (by decide +kernel)) ggX5_pays_X5_net
theorem dX5_pays_0 : decode cX5_pays 0 = .ok (.aload_n 0, 1) := by decide +kernel
theorem dX5_pays_1 : decode cX5_pays 1 = .ok (.getfield 28, 3) := by decide +kernel
theorem dX5_pays_4 : decode cX5_pays 4 = .ok (.iload_n 1, 1) := by decide +kernel
theorem dX5_pays_5 : decode cX5_pays 5 = .ok (.aload_n 0, 1) := by decide +kernel
theorem dX5_pays_6 : decode cX5_pays 6 = .ok (.getfield 94, 3) := by decide +kernel
theorem dX5_pays_9 : decode cX5_pays 9 = .ok (.iastore, 1) := by decide +kernel
theorem dX5_pays_10 : decode cX5_pays 10 = .ok (.aload_n 0, 1) := by decide +kernel
theorem dX5_pays_11 : decode cX5_pays 11 = .ok (.getfield 31, 3) := by decide +kernel
theorem dX5_pays_14 : decode cX5_pays 14 = .ok (.iload_n 1, 1) := by decide +kernel
theorem dX5_pays_15 : decode cX5_pays 15 = .ok (.aload_n 0, 1) := by decide +kernel
theorem dX5_pays_16 : decode cX5_pays 16 = .ok (.iload_n 1, 1) := by decide +kernel
theorem dX5_pays_17 : decode cX5_pays 17 = .ok (.invokevirtual 97, 3) := by decide +kernel
theorem dX5_pays_20 : decode cX5_pays 20 = .ok (.invokestatic 101, 3) := by decide +kernel
theorem dX5_pays_23 : decode cX5_pays 23 = .ok (.iastore, 1) := by decide +kernel
theorem dX5_pays_24 : decode cX5_pays 24 = .ok (.aload_n 0, 1) := by decide +kernel
theorem dX5_pays_25 : decode cX5_pays 25 = .ok (.getfield 31, 3) := by decide +kernel
theorem dX5_pays_28 : decode cX5_pays 28 = .ok (.iload_n 1, 1) := by decide +kernel
theorem dX5_pays_29 : decode cX5_pays 29 = .ok (.iaload, 1) := by decide +kernel
theorem dX5_pays_30 : decode cX5_pays 30 = .ok (.ireturn, 1) := by decide +kernel
set_option maxRecDepth 20000 in
theorem ggX5_open_X5_isTen : GoodIn wsX5_open wsX5_isTen := goodIn_r _ [5, 6, 7, 4, 8] (by decide +kernel) (by decide +kernel)
set_option maxRecDepth 20000 in
theorem gX5_open_X5_isTen : GoodIn wsX5_open (va_wsS RX5 87 yX5_isTen wsX5_isTen) := goodIn_app (goodIn_of _ (by decide +kernel)) ggX5_open_X5_isTen
set_option maxRecDepth 20000 in
theorem ggX5_open_X5_goes : GoodIn wsX5_open wsX5_goes := goodIn_r _ [12, 13, 25, 26, 27, 28, 29, 30, 31, 32, 33, 34, 35, 36, 37, 38, 39, 40, 41, 42, 43, 44, 45, 46, 47, 48, 49] (by decide +kernel) (by decide +kernel)
set_option maxRecDepth 20000 in
theorem gX5_open_X5_goes : GoodIn wsX5_open (wsV RX5 91 RX5 yX5_goes wsX5_goes) := goodIn_app (goodIn_of _ (by decide +kernel)) ggX5_open_X5_goes
set_option maxRecDepth 20000 in
theorem ggX5_open_X5_opens : GoodIn wsX5_open wsX5_opens := goodIn_r _ [17, 18, 1, 19, 20, 21, 22, 23, 24, 25, 26, 27, 28, 29, 30, 31, 32, 33, 34, 35, 36, 37, 38, 39, 40, 41, 42, 43, 44, 45, 46, 47, 48, 49] (by decide +kernel) (by decide +kernel)
set_option maxRecDepth 20000 in
theorem gX5_open_X5_opens : GoodIn wsX5_open (wsV RX5 104 RX5 yX5_opens wsX5_opens) := goodIn_app (goodIn_of _ (by decide +kernel)) ggX5_open_X5_opens
theorem dX5_open_0 : decode cX5_open 0 = .ok (.aload_n 0, 1) := by decide +kernel
theorem dX5_open_1 : decode cX5_open 1 = .ok (.iload_n 1, 1) := by decide +kernel
theorem dX5_open_2 : decode cX5_open 2 = .ok (.invokestatic 87, 3) := by decide +kernel
theorem dX5_open_5 : decode cX5_open 5 = .ok (.ifCond .ne 7, 3) := by decide +kernel
theorem dX5_open_8 : decode cX5_open 8 = .ok (.iconst 1, 1) := by decide +kernel
theorem dX5_open_9 : decode cX5_open 9 = .ok (.goto 17, 3) := by decide +kernel
theorem dX5_open_12 : decode cX5_open 12 = .ok (.aload_n 0, 1) := by decide +kernel
theorem dX5_open_13 : decode cX5_open 13 = .ok (.getfield 80, 3) := by decide +kernel
theorem dX5_open_16 : decode cX5_open 16 = .ok (.bipush 40, 2) := by decide +kernel
theorem dX5_open_18 : decode cX5_open 18 = .ok (.if_icmp .ne 7, 3) := by decide +kernel
theorem dX5_open_21 : decode cX5_open 21 = .ok (.iconst 2, 1) := by decide +kernel
theorem dX5_open_22 : decode cX5_open 22 = .ok (.goto 4, 3) := by decide +kernel
theorem dX5_open_25 : decode cX5_open 25 = .ok (.iconst 0, 1) := by decide +kernel
theorem dX5_open_26 : decode cX5_open 26 = .ok (.invokevirtual 91, 3) := by decide +kernel
theorem dX5_open_29 : decode cX5_open 29 = .ok (.ifCond .eq 11, 3) := by decide +kernel
theorem dX5_open_32 : decode cX5_open 32 = .ok (.aload_n 0, 1) := by decide +kernel
theorem dX5_open_33 : decode cX5_open 33 = .ok (.iload_n 1, 1) := by decide +kernel
theorem dX5_open_34 : decode cX5_open 34 = .ok (.invokevirtual 104, 3) := by decide +kernel
theorem dX5_open_37 : decode cX5_open 37 = .ok (.goto 4, 3) := by decide +kernel
theorem dX5_open_40 : decode cX5_open 40 = .ok (.iconst 0, 1) := by decide +kernel
theorem dX5_open_41 : decode cX5_open 41 = .ok (.ireturn, 1) := by decide +kernel
set_option maxRecDepth 20000 in
theorem ggX5_add_X5_isSale : GoodIn wsX5_add wsX5_isSale := goodIn_r _ [6, 7, 8, 9, 5, 10, 32, 33, 34, 35, 36, 37, 38, 39, 40, 41, 42, 43, 44, 45, 46, 47, 48, 49, 50, 51, 52, 53, 54, 55, 56] (by decide +kernel) (by decide +kernel)
set_option maxRecDepth 20000 in
theorem gX5_add_X5_isSale : GoodIn wsX5_add (wsV RX5 83 RX5 yX5_isSale wsX5_isSale) := goodIn_app (goodIn_of _ (by decide +kernel)) ggX5_add_X5_isSale
set_option maxRecDepth 20000 in
theorem ggX5_add_X5_isTen : GoodIn wsX5_add wsX5_isTen := goodIn_r _ [13, 8, 9, 5, 10] (by decide +kernel) (by decide +kernel)
set_option maxRecDepth 20000 in
theorem gX5_add_X5_isTen : GoodIn wsX5_add (va_wsS RX5 87 yX5_isTen wsX5_isTen) := goodIn_app (goodIn_of _ (by decide +kernel)) ggX5_add_X5_isTen
set_option maxRecDepth 20000 in
theorem ggX5_add_X5_isIn : GoodIn wsX5_add wsX5_isIn := goodIn_r _ [10] (by decide +kernel) (by decide +kernel)
set_option maxRecDepth 20000 in
theorem gX5_add_X5_isIn : GoodIn wsX5_add (va_wsS RX5 76 yX5_isIn wsX5_isIn) := goodIn_app (goodIn_of _ (by decide +kernel)) ggX5_add_X5_isIn
set_option maxRecDepth 20000 in
theorem ggX5_add_X5_isOpen : GoodIn wsX5_add wsX5_isOpen := goodIn_r _ [17, 18, 32, 33, 34, 35, 36, 37, 38, 39, 40, 41, 42, 43, 44, 45, 46, 47, 48, 49, 50, 51, 52, 53, 54, 55, 56] (by decide +kernel) (by decide +kernel)
set_option maxRecDepth 20000 in
theorem gX5_add_X5_isOpen : GoodIn wsX5_add (wsV RX5 107 RX5 yX5_isOpen wsX5_isOpen) := goodIn_app (goodIn_of _ (by decide +kernel)) ggX5_add_X5_isOpen
set_option maxRecDepth 20000 in
theorem ggX5_add_X5_goes : GoodIn wsX5_add wsX5_goes := goodIn_r _ [22, 23, 32, 33, 34, 35, 36, 37, 38, 39, 40, 41, 42, 43, 44, 45, 46, 47, 48, 49, 50, 51, 52, 53, 54, 55, 56] (by decide +kernel) (by decide +kernel)
set_option maxRecDepth 20000 in
theorem gX5_add_X5_goes : GoodIn wsX5_add (wsV RX5 91 RX5 yX5_goes wsX5_goes) := goodIn_app (goodIn_of _ (by decide +kernel)) ggX5_add_X5_goes
set_option maxRecDepth 20000 in
theorem ggX5_add_X5_adds : GoodIn wsX5_add wsX5_adds := goodIn_r _ [27, 1, 28, 29, 30, 31, 32, 33, 34, 35, 36, 37, 38, 39, 40, 41, 42, 43, 44, 45, 46, 47, 48, 49, 50, 51, 52, 53, 54, 55, 56] (by decide +kernel) (by decide +kernel)
set_option maxRecDepth 20000 in
theorem gX5_add_X5_adds : GoodIn wsX5_add (wsV RX5 110 RX5 yX5_adds wsX5_adds) := goodIn_app (goodIn_of _ (by decide +kernel)) ggX5_add_X5_adds
theorem dX5_add_0 : decode cX5_add 0 = .ok (.aload_n 0, 1) := by decide +kernel
theorem dX5_add_1 : decode cX5_add 1 = .ok (.iload_n 1, 1) := by decide +kernel
theorem dX5_add_2 : decode cX5_add 2 = .ok (.invokevirtual 83, 3) := by decide +kernel
theorem dX5_add_5 : decode cX5_add 5 = .ok (.ifCond .ne 7, 3) := by decide +kernel
theorem dX5_add_8 : decode cX5_add 8 = .ok (.iconst 1, 1) := by decide +kernel
theorem dX5_add_9 : decode cX5_add 9 = .ok (.goto 48, 3) := by decide +kernel
theorem dX5_add_12 : decode cX5_add 12 = .ok (.iload_n 2, 1) := by decide +kernel
theorem dX5_add_13 : decode cX5_add 13 = .ok (.invokestatic 87, 3) := by decide +kernel
theorem dX5_add_16 : decode cX5_add 16 = .ok (.ifCond .eq 13, 3) := by decide +kernel
theorem dX5_add_19 : decode cX5_add 19 = .ok (.iload_n 3, 1) := by decide +kernel
theorem dX5_add_20 : decode cX5_add 20 = .ok (.iconst 1, 1) := by decide +kernel
theorem dX5_add_21 : decode cX5_add 21 = .ok (.bipush 20, 2) := by decide +kernel
theorem dX5_add_23 : decode cX5_add 23 = .ok (.invokestatic 76, 3) := by decide +kernel
theorem dX5_add_26 : decode cX5_add 26 = .ok (.ifCond .ne 7, 3) := by decide +kernel
theorem dX5_add_29 : decode cX5_add 29 = .ok (.iconst 2, 1) := by decide +kernel
theorem dX5_add_30 : decode cX5_add 30 = .ok (.goto 27, 3) := by decide +kernel
theorem dX5_add_33 : decode cX5_add 33 = .ok (.aload_n 0, 1) := by decide +kernel
theorem dX5_add_34 : decode cX5_add 34 = .ok (.iload_n 1, 1) := by decide +kernel
theorem dX5_add_35 : decode cX5_add 35 = .ok (.invokevirtual 107, 3) := by decide +kernel
theorem dX5_add_38 : decode cX5_add 38 = .ok (.ifCond .eq 14, 3) := by decide +kernel
theorem dX5_add_41 : decode cX5_add 41 = .ok (.aload_n 0, 1) := by decide +kernel
theorem dX5_add_42 : decode cX5_add 42 = .ok (.getfield 25, 3) := by decide +kernel
theorem dX5_add_45 : decode cX5_add 45 = .ok (.iload_n 1, 1) := by decide +kernel
theorem dX5_add_46 : decode cX5_add 46 = .ok (.iaload, 1) := by decide +kernel
theorem dX5_add_47 : decode cX5_add 47 = .ok (.bipush 6, 2) := by decide +kernel
theorem dX5_add_49 : decode cX5_add 49 = .ok (.if_icmp .ne 7, 3) := by decide +kernel
theorem dX5_add_52 : decode cX5_add 52 = .ok (.iconst 3, 1) := by decide +kernel
theorem dX5_add_53 : decode cX5_add 53 = .ok (.goto 4, 3) := by decide +kernel
theorem dX5_add_56 : decode cX5_add 56 = .ok (.iconst 0, 1) := by decide +kernel
theorem dX5_add_57 : decode cX5_add 57 = .ok (.istore 4, 2) := by decide +kernel
theorem dX5_add_59 : decode cX5_add 59 = .ok (.aload_n 0, 1) := by decide +kernel
theorem dX5_add_60 : decode cX5_add 60 = .ok (.iload 4, 2) := by decide +kernel
theorem dX5_add_62 : decode cX5_add 62 = .ok (.invokevirtual 91, 3) := by decide +kernel
theorem dX5_add_65 : decode cX5_add 65 = .ok (.ifCond .eq 13, 3) := by decide +kernel
theorem dX5_add_68 : decode cX5_add 68 = .ok (.aload_n 0, 1) := by decide +kernel
theorem dX5_add_69 : decode cX5_add 69 = .ok (.iload_n 1, 1) := by decide +kernel
theorem dX5_add_70 : decode cX5_add 70 = .ok (.iload_n 2, 1) := by decide +kernel
theorem dX5_add_71 : decode cX5_add 71 = .ok (.iload_n 3, 1) := by decide +kernel
theorem dX5_add_72 : decode cX5_add 72 = .ok (.invokevirtual 110, 3) := by decide +kernel
theorem dX5_add_75 : decode cX5_add 75 = .ok (.goto 4, 3) := by decide +kernel
theorem dX5_add_78 : decode cX5_add 78 = .ok (.iconst 0, 1) := by decide +kernel
theorem dX5_add_79 : decode cX5_add 79 = .ok (.ireturn, 1) := by decide +kernel
set_option maxRecDepth 20000 in
theorem ggX5_pay_X5_isSale : GoodIn wsX5_pay wsX5_isSale := goodIn_r _ [6, 7, 8, 9, 5, 10, 44, 45, 46, 47, 48, 49, 50, 51, 52, 53, 54, 55, 56, 57, 58, 59, 60, 61, 62, 63, 64, 65, 66, 67, 68] (by decide +kernel) (by decide +kernel)
set_option maxRecDepth 20000 in
theorem gX5_pay_X5_isSale : GoodIn wsX5_pay (wsV RX5 83 RX5 yX5_isSale wsX5_isSale) := goodIn_app (goodIn_of _ (by decide +kernel)) ggX5_pay_X5_isSale
set_option maxRecDepth 20000 in
theorem ggX5_pay_X5_isOpen : GoodIn wsX5_pay wsX5_isOpen := goodIn_r _ [14, 15, 44, 45, 46, 47, 48, 49, 50, 51, 52, 53, 54, 55, 56, 57, 58, 59, 60, 61, 62, 63, 64, 65, 66, 67, 68] (by decide +kernel) (by decide +kernel)
set_option maxRecDepth 20000 in
theorem gX5_pay_X5_isOpen : GoodIn wsX5_pay (wsV RX5 107 RX5 yX5_isOpen wsX5_isOpen) := goodIn_app (goodIn_of _ (by decide +kernel)) ggX5_pay_X5_isOpen
set_option maxRecDepth 20000 in
theorem ggX5_pay_X5_goes : GoodIn wsX5_pay wsX5_goes := goodIn_r _ [19, 20, 44, 45, 46, 47, 48, 49, 50, 51, 52, 53, 54, 55, 56, 57, 58, 59, 60, 61, 62, 63, 64, 65, 66, 67, 68] (by decide +kernel) (by decide +kernel)
set_option maxRecDepth 20000 in
theorem gX5_pay_X5_goes : GoodIn wsX5_pay (wsV RX5 91 RX5 yX5_goes wsX5_goes) := goodIn_app (goodIn_of _ (by decide +kernel)) ggX5_pay_X5_goes
set_option maxRecDepth 20000 in
theorem ggX5_pay_X5_pays : GoodIn wsX5_pay wsX5_pays := goodIn_r _ [24, 15, 25, 26, 27, 28, 29, 5, 30, 1, 31, 32, 33, 34, 35, 36, 37, 38, 39, 40, 41, 42, 43, 44, 45, 46, 47, 48, 49, 50, 51, 52, 53, 54, 55, 56, 57, 58, 59, 60, 61, 62, 63, 64, 65, 66, 67, 68] (by decide +kernel) (by decide +kernel)
set_option maxRecDepth 20000 in
theorem gX5_pay_X5_pays : GoodIn wsX5_pay (wsV RX5 114 RX5 yX5_pays wsX5_pays) := goodIn_app (goodIn_of _ (by decide +kernel)) ggX5_pay_X5_pays
theorem dX5_pay_0 : decode cX5_pay 0 = .ok (.aload_n 0, 1) := by decide +kernel
theorem dX5_pay_1 : decode cX5_pay 1 = .ok (.aload_n 0, 1) := by decide +kernel
theorem dX5_pay_2 : decode cX5_pay 2 = .ok (.iload_n 1, 1) := by decide +kernel
theorem dX5_pay_3 : decode cX5_pay 3 = .ok (.invokevirtual 83, 3) := by decide +kernel
theorem dX5_pay_6 : decode cX5_pay 6 = .ok (.ifCond .ne 7, 3) := by decide +kernel
theorem dX5_pay_9 : decode cX5_pay 9 = .ok (.iconst 1, 1) := by decide +kernel
theorem dX5_pay_10 : decode cX5_pay 10 = .ok (.goto 25, 3) := by decide +kernel
theorem dX5_pay_13 : decode cX5_pay 13 = .ok (.aload_n 0, 1) := by decide +kernel
theorem dX5_pay_14 : decode cX5_pay 14 = .ok (.iload_n 1, 1) := by decide +kernel
theorem dX5_pay_15 : decode cX5_pay 15 = .ok (.invokevirtual 107, 3) := by decide +kernel
theorem dX5_pay_18 : decode cX5_pay 18 = .ok (.ifCond .eq 12, 3) := by decide +kernel
theorem dX5_pay_21 : decode cX5_pay 21 = .ok (.aload_n 0, 1) := by decide +kernel
theorem dX5_pay_22 : decode cX5_pay 22 = .ok (.getfield 25, 3) := by decide +kernel
theorem dX5_pay_25 : decode cX5_pay 25 = .ok (.iload_n 1, 1) := by decide +kernel
theorem dX5_pay_26 : decode cX5_pay 26 = .ok (.iaload, 1) := by decide +kernel
theorem dX5_pay_27 : decode cX5_pay 27 = .ok (.ifCond .ne 7, 3) := by decide +kernel
theorem dX5_pay_30 : decode cX5_pay 30 = .ok (.iconst 2, 1) := by decide +kernel
theorem dX5_pay_31 : decode cX5_pay 31 = .ok (.goto 4, 3) := by decide +kernel
theorem dX5_pay_34 : decode cX5_pay 34 = .ok (.iconst 0, 1) := by decide +kernel
theorem dX5_pay_35 : decode cX5_pay 35 = .ok (.invokevirtual 91, 3) := by decide +kernel
theorem dX5_pay_38 : decode cX5_pay 38 = .ok (.ifCond .eq 11, 3) := by decide +kernel
theorem dX5_pay_41 : decode cX5_pay 41 = .ok (.aload_n 0, 1) := by decide +kernel
theorem dX5_pay_42 : decode cX5_pay 42 = .ok (.iload_n 1, 1) := by decide +kernel
theorem dX5_pay_43 : decode cX5_pay 43 = .ok (.invokevirtual 114, 3) := by decide +kernel
theorem dX5_pay_46 : decode cX5_pay 46 = .ok (.goto 4, 3) := by decide +kernel
theorem dX5_pay_49 : decode cX5_pay 49 = .ok (.iconst 0, 1) := by decide +kernel
theorem dX5_pay_50 : decode cX5_pay 50 = .ok (.ireturn, 1) := by decide +kernel
theorem dX5_sales_0 : decode cX5_sales 0 = .ok (.aload_n 0, 1) := by decide +kernel
theorem dX5_sales_1 : decode cX5_sales 1 = .ok (.iconst 0, 1) := by decide +kernel
theorem dX5_sales_2 : decode cX5_sales 2 = .ok (.putfield 72, 3) := by decide +kernel
theorem dX5_sales_5 : decode cX5_sales 5 = .ok (.aload_n 0, 1) := by decide +kernel
theorem dX5_sales_6 : decode cX5_sales 6 = .ok (.getfield 80, 3) := by decide +kernel
theorem dX5_sales_9 : decode cX5_sales 9 = .ok (.ireturn, 1) := by decide +kernel
set_option maxRecDepth 20000 in
theorem ggX5_paid_X5_isSale : GoodIn wsX5_paid wsX5_isSale := goodIn_r _ [6, 7, 8, 9, 5, 10, 16, 17, 18, 19, 20, 21, 22, 23, 24, 25, 26, 27, 28, 29, 30, 31, 32, 33, 34, 35, 36, 37, 38, 39, 40] (by decide +kernel) (by decide +kernel)
set_option maxRecDepth 20000 in
theorem gX5_paid_X5_isSale : GoodIn wsX5_paid (wsV RX5 83 RX5 yX5_isSale wsX5_isSale) := goodIn_app (goodIn_of _ (by decide +kernel)) ggX5_paid_X5_isSale
set_option maxRecDepth 20000 in
theorem ggX5_paid_X5_goes : GoodIn wsX5_paid wsX5_goes := goodIn_r _ [14, 15, 16, 17, 18, 19, 20, 21, 22, 23, 24, 25, 26, 27, 28, 29, 30, 31, 32, 33, 34, 35, 36, 37, 38, 39, 40] (by decide +kernel) (by decide +kernel)
set_option maxRecDepth 20000 in
theorem gX5_paid_X5_goes : GoodIn wsX5_paid (wsV RX5 91 RX5 yX5_goes wsX5_goes) := goodIn_app (goodIn_of _ (by decide +kernel)) ggX5_paid_X5_goes
theorem dX5_paid_0 : decode cX5_paid 0 = .ok (.aload_n 0, 1) := by decide +kernel
theorem dX5_paid_1 : decode cX5_paid 1 = .ok (.aload_n 0, 1) := by decide +kernel
theorem dX5_paid_2 : decode cX5_paid 2 = .ok (.iload_n 1, 1) := by decide +kernel
theorem dX5_paid_3 : decode cX5_paid 3 = .ok (.invokevirtual 83, 3) := by decide +kernel
theorem dX5_paid_6 : decode cX5_paid 6 = .ok (.ifCond .eq 7, 3) := by decide +kernel
theorem dX5_paid_9 : decode cX5_paid 9 = .ok (.iconst 0, 1) := by decide +kernel
theorem dX5_paid_10 : decode cX5_paid 10 = .ok (.goto 4, 3) := by decide +kernel
theorem dX5_paid_13 : decode cX5_paid 13 = .ok (.iconst 1, 1) := by decide +kernel
theorem dX5_paid_14 : decode cX5_paid 14 = .ok (.invokevirtual 91, 3) := by decide +kernel
theorem dX5_paid_17 : decode cX5_paid 17 = .ok (.ifCond .eq 12, 3) := by decide +kernel
theorem dX5_paid_20 : decode cX5_paid 20 = .ok (.aload_n 0, 1) := by decide +kernel
theorem dX5_paid_21 : decode cX5_paid 21 = .ok (.getfield 31, 3) := by decide +kernel
theorem dX5_paid_24 : decode cX5_paid 24 = .ok (.iload_n 1, 1) := by decide +kernel
theorem dX5_paid_25 : decode cX5_paid 25 = .ok (.iaload, 1) := by decide +kernel
theorem dX5_paid_26 : decode cX5_paid 26 = .ok (.goto 4, 3) := by decide +kernel
theorem dX5_paid_29 : decode cX5_paid 29 = .ok (.iconst 0, 1) := by decide +kernel
theorem dX5_paid_30 : decode cX5_paid 30 = .ok (.ireturn, 1) := by decide +kernel
set_option maxRecDepth 20000 in
theorem ggX5_kept_X5_isLine : GoodIn wsX5_kept wsX5_isLine := goodIn_r _ [6, 7, 8, 9, 10, 5, 11, 12, 13, 14, 15, 26, 27, 28, 29, 30, 31, 32, 33, 34, 35, 36, 37, 38, 39, 40, 41, 42, 43, 44, 45, 46, 47, 48, 49, 50] (by decide +kernel) (by decide +kernel)
set_option maxRecDepth 20000 in
theorem gX5_kept_X5_isLine : GoodIn wsX5_kept (wsV RX5 117 RX5 yX5_isLine wsX5_isLine) := goodIn_app (goodIn_of _ (by decide +kernel)) ggX5_kept_X5_isLine
set_option maxRecDepth 20000 in
theorem ggX5_kept_X5_goes : GoodIn wsX5_kept wsX5_goes := goodIn_r _ [19, 20, 26, 27, 28, 29, 30, 31, 32, 33, 34, 35, 36, 37, 38, 39, 40, 41, 42, 43, 44, 45, 46, 47, 48, 49, 50] (by decide +kernel) (by decide +kernel)
set_option maxRecDepth 20000 in
theorem gX5_kept_X5_goes : GoodIn wsX5_kept (wsV RX5 91 RX5 yX5_goes wsX5_goes) := goodIn_app (goodIn_of _ (by decide +kernel)) ggX5_kept_X5_goes
set_option maxRecDepth 20000 in
theorem ggX5_kept_X5_isOpen : GoodIn wsX5_kept wsX5_isOpen := goodIn_r _ [24, 25, 26, 27, 28, 29, 30, 31, 32, 33, 34, 35, 36, 37, 38, 39, 40, 41, 42, 43, 44, 45, 46, 47, 48, 49, 50] (by decide +kernel) (by decide +kernel)
set_option maxRecDepth 20000 in
theorem gX5_kept_X5_isOpen : GoodIn wsX5_kept (wsV RX5 107 RX5 yX5_isOpen wsX5_isOpen) := goodIn_app (goodIn_of _ (by decide +kernel)) ggX5_kept_X5_isOpen
theorem dX5_kept_0 : decode cX5_kept 0 = .ok (.aload_n 0, 1) := by decide +kernel
theorem dX5_kept_1 : decode cX5_kept 1 = .ok (.aload_n 0, 1) := by decide +kernel
theorem dX5_kept_2 : decode cX5_kept 2 = .ok (.iload_n 1, 1) := by decide +kernel
theorem dX5_kept_3 : decode cX5_kept 3 = .ok (.iload_n 2, 1) := by decide +kernel
theorem dX5_kept_4 : decode cX5_kept 4 = .ok (.invokevirtual 117, 3) := by decide +kernel
theorem dX5_kept_7 : decode cX5_kept 7 = .ok (.ifCond .eq 7, 3) := by decide +kernel
theorem dX5_kept_10 : decode cX5_kept 10 = .ok (.iconst 0, 1) := by decide +kernel
theorem dX5_kept_11 : decode cX5_kept 11 = .ok (.goto 4, 3) := by decide +kernel
theorem dX5_kept_14 : decode cX5_kept 14 = .ok (.iconst 1, 1) := by decide +kernel
theorem dX5_kept_15 : decode cX5_kept 15 = .ok (.invokevirtual 91, 3) := by decide +kernel
theorem dX5_kept_18 : decode cX5_kept 18 = .ok (.ifCond .eq 25, 3) := by decide +kernel
theorem dX5_kept_21 : decode cX5_kept 21 = .ok (.aload_n 0, 1) := by decide +kernel
theorem dX5_kept_22 : decode cX5_kept 22 = .ok (.iload_n 1, 1) := by decide +kernel
theorem dX5_kept_23 : decode cX5_kept 23 = .ok (.invokevirtual 107, 3) := by decide +kernel
theorem dX5_kept_26 : decode cX5_kept 26 = .ok (.ifCond .ne 17, 3) := by decide +kernel
theorem dX5_kept_29 : decode cX5_kept 29 = .ok (.aload_n 0, 1) := by decide +kernel
theorem dX5_kept_30 : decode cX5_kept 30 = .ok (.getfield 49, 3) := by decide +kernel
theorem dX5_kept_33 : decode cX5_kept 33 = .ok (.bipush 6, 2) := by decide +kernel
theorem dX5_kept_35 : decode cX5_kept 35 = .ok (.iload_n 1, 1) := by decide +kernel
theorem dX5_kept_36 : decode cX5_kept 36 = .ok (.imul, 1) := by decide +kernel
theorem dX5_kept_37 : decode cX5_kept 37 = .ok (.iload_n 2, 1) := by decide +kernel
theorem dX5_kept_38 : decode cX5_kept 38 = .ok (.iadd, 1) := by decide +kernel
theorem dX5_kept_39 : decode cX5_kept 39 = .ok (.iaload, 1) := by decide +kernel
theorem dX5_kept_40 : decode cX5_kept 40 = .ok (.goto 4, 3) := by decide +kernel
theorem dX5_kept_43 : decode cX5_kept 43 = .ok (.iconst 0, 1) := by decide +kernel
theorem dX5_kept_44 : decode cX5_kept 44 = .ok (.ireturn, 1) := by decide +kernel
theorem dX5_goodsOf_0 : decode cX5_goodsOf 0 = .ok (.aload_n 0, 1) := by decide +kernel
theorem dX5_goodsOf_1 : decode cX5_goodsOf 1 = .ok (.getfield 46, 3) := by decide +kernel
theorem dX5_goodsOf_4 : decode cX5_goodsOf 4 = .ok (.bipush 6, 2) := by decide +kernel
theorem dX5_goodsOf_6 : decode cX5_goodsOf 6 = .ok (.iload_n 1, 1) := by decide +kernel
theorem dX5_goodsOf_7 : decode cX5_goodsOf 7 = .ok (.imul, 1) := by decide +kernel
theorem dX5_goodsOf_8 : decode cX5_goodsOf 8 = .ok (.iload_n 2, 1) := by decide +kernel
theorem dX5_goodsOf_9 : decode cX5_goodsOf 9 = .ok (.iadd, 1) := by decide +kernel
theorem dX5_goodsOf_10 : decode cX5_goodsOf 10 = .ok (.iaload, 1) := by decide +kernel
theorem dX5_goodsOf_11 : decode cX5_goodsOf 11 = .ok (.aload_n 0, 1) := by decide +kernel
theorem dX5_goodsOf_12 : decode cX5_goodsOf 12 = .ok (.getfield 49, 3) := by decide +kernel
theorem dX5_goodsOf_15 : decode cX5_goodsOf 15 = .ok (.bipush 6, 2) := by decide +kernel
theorem dX5_goodsOf_17 : decode cX5_goodsOf 17 = .ok (.iload_n 1, 1) := by decide +kernel
theorem dX5_goodsOf_18 : decode cX5_goodsOf 18 = .ok (.imul, 1) := by decide +kernel
theorem dX5_goodsOf_19 : decode cX5_goodsOf 19 = .ok (.iload_n 2, 1) := by decide +kernel
theorem dX5_goodsOf_20 : decode cX5_goodsOf 20 = .ok (.iadd, 1) := by decide +kernel
theorem dX5_goodsOf_21 : decode cX5_goodsOf 21 = .ok (.iaload, 1) := by decide +kernel
theorem dX5_goodsOf_22 : decode cX5_goodsOf 22 = .ok (.imul, 1) := by decide +kernel
theorem dX5_goodsOf_23 : decode cX5_goodsOf 23 = .ok (.ireturn, 1) := by decide +kernel
set_option maxRecDepth 20000 in
theorem ggX5_goods_X5_goodsOf : GoodIn wsX5_goods wsX5_goodsOf := goodIn_r _ [6, 7, 8, 9, 10, 11, 12, 13, 14, 15, 16, 17, 18, 19, 20, 21, 22, 23, 24, 25, 26, 27, 28, 29, 30, 31, 32, 33] (by decide +kernel) (by decide +kernel)
set_option maxRecDepth 20000 in
theorem gX5_goods_X5_goodsOf : GoodIn wsX5_goods (wsV RX5 121 RX5 yX5_goodsOf wsX5_goodsOf) := goodIn_app (goodIn_of _ (by decide +kernel)) ggX5_goods_X5_goodsOf
theorem dX5_goods_0 : decode cX5_goods 0 = .ok (.iconst 0, 1) := by decide +kernel
theorem dX5_goods_1 : decode cX5_goods 1 = .ok (.istore_n 2, 1) := by decide +kernel
theorem dX5_goods_2 : decode cX5_goods 2 = .ok (.iconst 0, 1) := by decide +kernel
theorem dX5_goods_3 : decode cX5_goods 3 = .ok (.istore_n 3, 1) := by decide +kernel
theorem dX5_goods_4 : decode cX5_goods 4 = .ok (.iload_n 3, 1) := by decide +kernel
theorem dX5_goods_5 : decode cX5_goods 5 = .ok (.aload_n 0, 1) := by decide +kernel
theorem dX5_goods_6 : decode cX5_goods 6 = .ok (.getfield 25, 3) := by decide +kernel
theorem dX5_goods_9 : decode cX5_goods 9 = .ok (.iload_n 1, 1) := by decide +kernel
theorem dX5_goods_10 : decode cX5_goods 10 = .ok (.iaload, 1) := by decide +kernel
theorem dX5_goods_11 : decode cX5_goods 11 = .ok (.if_icmp .ge 18, 3) := by decide +kernel
theorem dX5_goods_14 : decode cX5_goods 14 = .ok (.iload_n 2, 1) := by decide +kernel
theorem dX5_goods_15 : decode cX5_goods 15 = .ok (.aload_n 0, 1) := by decide +kernel
theorem dX5_goods_16 : decode cX5_goods 16 = .ok (.iload_n 1, 1) := by decide +kernel
theorem dX5_goods_17 : decode cX5_goods 17 = .ok (.iload_n 3, 1) := by decide +kernel
theorem dX5_goods_18 : decode cX5_goods 18 = .ok (.invokevirtual 121, 3) := by decide +kernel
theorem dX5_goods_21 : decode cX5_goods 21 = .ok (.iadd, 1) := by decide +kernel
theorem dX5_goods_22 : decode cX5_goods 22 = .ok (.istore_n 2, 1) := by decide +kernel
theorem dX5_goods_23 : decode cX5_goods 23 = .ok (.iinc 3 1, 3) := by decide +kernel
theorem dX5_goods_26 : decode cX5_goods 26 = .ok (.goto (-22), 3) := by decide +kernel
theorem dX5_goods_29 : decode cX5_goods 29 = .ok (.iload_n 2, 1) := by decide +kernel
theorem dX5_goods_30 : decode cX5_goods 30 = .ok (.ireturn, 1) := by decide +kernel
theorem dX5_net_0 : decode cX5_net 0 = .ok (.iload_n 0, 1) := by decide +kernel
theorem dX5_net_1 : decode cX5_net 1 = .ok (.sipush 5000, 3) := by decide +kernel
