theorem dL_setProduct_0 : decode cL_setProduct 0 = .ok (.aload 5, 2) := by decide +kernel
theorem dL_setProduct_2 : decode cL_setProduct 2 = .ok (.iconst 0, 1) := by decide +kernel
theorem dL_setProduct_3 : decode cL_setProduct 3 = .ok (.aload_n 0, 1) := by decide +kernel
theorem dL_setProduct_4 : decode cL_setProduct 4 = .ok (.iload_n 1, 1) := by decide +kernel
theorem dL_setProduct_5 : decode cL_setProduct 5 = .ok (.iload_n 2, 1) := by decide +kernel
theorem dL_setProduct_6 : decode cL_setProduct 6 = .ok (.iload_n 3, 1) := by decide +kernel
theorem dL_setProduct_7 : decode cL_setProduct 7 = .ok (.iload 4, 2) := by decide +kernel
theorem dL_setProduct_9 : decode cL_setProduct 9 = .ok (.invokevirtual 7, 3) := by decide +kernel
theorem dL_setProduct_12 : decode cL_setProduct 12 = .ok (.i2l, 1) := by decide +kernel
theorem dL_setProduct_13 : decode cL_setProduct 13 = .ok (.lastore, 1) := by decide +kernel
theorem dL_setProduct_14 : decode cL_setProduct 14 = .ok (.goto 7, 3) := by decide +kernel
theorem dL_setProduct_17 : decode cL_setProduct 17 = .ok (.astore 6, 2) := by decide +kernel
theorem dL_setProduct_19 : decode cL_setProduct 19 = .ok (.iconst 1, 1) := by decide +kernel
theorem dL_setProduct_20 : decode cL_setProduct 20 = .ok (.ireturn, 1) := by decide +kernel
theorem dL_setProduct_21 : decode cL_setProduct 21 = .ok (.iconst 0, 1) := by decide +kernel
theorem dL_setProduct_22 : decode cL_setProduct 22 = .ok (.ireturn, 1) := by decide +kernel
set_option maxRecDepth 20000 in
theorem ggL_pass_X4_pass : GoodIn wsL_pass wsX4_pass := goodIn_ca (goodIn_ca (goodIn_r _ [7, 8, 9, 10, 11, 12, 13, 14, 15, 16, 17, 18, 19] (by decide +kernel) (by decide +kernel)) (goodIn_sub (fun _ h => List.mem_cons_of_mem _ (List.mem_append_left _ (List.mem_append_right _ h))) (by decide +kernel))) (goodIn_sub (fun _ h => List.mem_cons_of_mem _ (List.mem_append_right _ h)) (by decide +kernel))
set_option maxRecDepth 20000 in
theorem gL_pass_X4_pass : GoodIn wsL_pass (wsV RL 15 RX4 yX4_pass wsX4_pass) := goodIn_app (goodIn_of _ (by decide +kernel)) ggL_pass_X4_pass
theorem dL_pass_0 : decode cL_pass 0 = .ok (.aload_n 2, 1) := by decide +kernel
theorem dL_pass_1 : decode cL_pass 1 = .ok (.iconst 0, 1) := by decide +kernel
theorem dL_pass_2 : decode cL_pass 2 = .ok (.aload_n 0, 1) := by decide +kernel
theorem dL_pass_3 : decode cL_pass 3 = .ok (.iload_n 1, 1) := by decide +kernel
theorem dL_pass_4 : decode cL_pass 4 = .ok (.invokevirtual 15, 3) := by decide +kernel
theorem dL_pass_7 : decode cL_pass 7 = .ok (.i2l, 1) := by decide +kernel
theorem dL_pass_8 : decode cL_pass 8 = .ok (.lastore, 1) := by decide +kernel
theorem dL_pass_9 : decode cL_pass 9 = .ok (.goto 9, 3) := by decide +kernel
theorem dL_pass_12 : decode cL_pass 12 = .ok (.astore_n 3, 1) := by decide +kernel
theorem dL_pass_13 : decode cL_pass 13 = .ok (.iconst 1, 1) := by decide +kernel
theorem dL_pass_14 : decode cL_pass 14 = .ok (.ireturn, 1) := by decide +kernel
theorem dL_pass_15 : decode cL_pass 15 = .ok (.astore_n 3, 1) := by decide +kernel
theorem dL_pass_16 : decode cL_pass 16 = .ok (.iconst 2, 1) := by decide +kernel
theorem dL_pass_17 : decode cL_pass 17 = .ok (.ireturn, 1) := by decide +kernel
theorem dL_pass_18 : decode cL_pass 18 = .ok (.iconst 0, 1) := by decide +kernel
theorem dL_pass_19 : decode cL_pass 19 = .ok (.ireturn, 1) := by decide +kernel
set_option maxRecDepth 20000 in
theorem ggL_open_X4_open : GoodIn wsL_open wsX4_open := goodIn_ca (goodIn_ca (goodIn_r _ [7, 8, 9, 10, 11, 12, 13, 14, 15, 16, 17, 18, 6, 19, 20, 21, 22, 23, 24, 25, 26, 27, 28, 29, 30, 31, 32, 33, 34, 35, 36, 37, 38, 39, 40, 41, 42, 43, 44, 45, 46, 47, 48, 49, 50, 51, 52, 53, 54, 55] (by decide +kernel) (by decide +kernel)) (goodIn_sub (fun _ h => List.mem_cons_of_mem _ (List.mem_append_left _ (List.mem_append_right _ h))) (by decide +kernel))) (goodIn_sub (fun _ h => List.mem_cons_of_mem _ (List.mem_append_right _ h)) (by decide +kernel))
set_option maxRecDepth 20000 in
theorem gL_open_X4_open : GoodIn wsL_open (wsV RL 21 RX4 yX4_open wsX4_open) := goodIn_app (goodIn_of _ (by decide +kernel)) ggL_open_X4_open
theorem dL_open_0 : decode cL_open 0 = .ok (.aload_n 2, 1) := by decide +kernel
theorem dL_open_1 : decode cL_open 1 = .ok (.iconst 0, 1) := by decide +kernel
theorem dL_open_2 : decode cL_open 2 = .ok (.aload_n 0, 1) := by decide +kernel
theorem dL_open_3 : decode cL_open 3 = .ok (.iload_n 1, 1) := by decide +kernel
theorem dL_open_4 : decode cL_open 4 = .ok (.invokevirtual 21, 3) := by decide +kernel
theorem dL_open_7 : decode cL_open 7 = .ok (.i2l, 1) := by decide +kernel
theorem dL_open_8 : decode cL_open 8 = .ok (.lastore, 1) := by decide +kernel
theorem dL_open_9 : decode cL_open 9 = .ok (.goto 9, 3) := by decide +kernel
theorem dL_open_12 : decode cL_open 12 = .ok (.astore_n 3, 1) := by decide +kernel
theorem dL_open_13 : decode cL_open 13 = .ok (.iconst 1, 1) := by decide +kernel
theorem dL_open_14 : decode cL_open 14 = .ok (.ireturn, 1) := by decide +kernel
theorem dL_open_15 : decode cL_open 15 = .ok (.astore_n 3, 1) := by decide +kernel
theorem dL_open_16 : decode cL_open 16 = .ok (.iconst 2, 1) := by decide +kernel
theorem dL_open_17 : decode cL_open 17 = .ok (.ireturn, 1) := by decide +kernel
theorem dL_open_18 : decode cL_open 18 = .ok (.iconst 0, 1) := by decide +kernel
theorem dL_open_19 : decode cL_open 19 = .ok (.ireturn, 1) := by decide +kernel
set_option maxRecDepth 20000 in
theorem ggL_add_X4_add : GoodIn wsL_add wsX4_add := goodIn_ca (goodIn_ca (goodIn_ca (goodIn_r _ [8, 9, 10, 11, 12, 13, 14, 15, 16, 17, 18, 19, 20, 7, 21, 22, 23, 24, 25, 26, 27, 28, 29, 30, 31, 32, 33, 34, 35, 36, 37, 38, 39, 40, 41, 42, 43, 44, 45, 46, 47, 48, 49, 50, 51, 52, 53, 54, 55, 56, 57, 58, 59, 60, 61, 62, 63, 64, 65, 66, 67, 68, 69, 70, 71, 72, 73, 74, 75, 76] (by decide +kernel) (by decide +kernel)) (goodIn_sub (fun _ h => List.mem_cons_of_mem _ (List.mem_append_left _ (List.mem_append_left _ (List.mem_append_right _ h)))) (by decide +kernel))) (goodIn_sub (fun _ h => List.mem_cons_of_mem _ (List.mem_append_left _ (List.mem_append_right _ h))) (by decide +kernel))) (goodIn_sub (fun _ h => List.mem_cons_of_mem _ (List.mem_append_right _ h)) (by decide +kernel))
set_option maxRecDepth 20000 in
theorem gL_add_X4_add : GoodIn wsL_add (wsV RL 24 RX4 yX4_add wsX4_add) := goodIn_app (goodIn_of _ (by decide +kernel)) ggL_add_X4_add
theorem dL_add_0 : decode cL_add 0 = .ok (.aload 4, 2) := by decide +kernel
theorem dL_add_2 : decode cL_add 2 = .ok (.iconst 0, 1) := by decide +kernel
theorem dL_add_3 : decode cL_add 3 = .ok (.aload_n 0, 1) := by decide +kernel
theorem dL_add_4 : decode cL_add 4 = .ok (.iload_n 1, 1) := by decide +kernel
theorem dL_add_5 : decode cL_add 5 = .ok (.iload_n 2, 1) := by decide +kernel
theorem dL_add_6 : decode cL_add 6 = .ok (.iload_n 3, 1) := by decide +kernel
theorem dL_add_7 : decode cL_add 7 = .ok (.invokevirtual 24, 3) := by decide +kernel
theorem dL_add_10 : decode cL_add 10 = .ok (.i2l, 1) := by decide +kernel
theorem dL_add_11 : decode cL_add 11 = .ok (.lastore, 1) := by decide +kernel
theorem dL_add_12 : decode cL_add 12 = .ok (.goto 15, 3) := by decide +kernel
theorem dL_add_15 : decode cL_add 15 = .ok (.astore 5, 2) := by decide +kernel
theorem dL_add_17 : decode cL_add 17 = .ok (.iconst 1, 1) := by decide +kernel
theorem dL_add_18 : decode cL_add 18 = .ok (.ireturn, 1) := by decide +kernel
theorem dL_add_19 : decode cL_add 19 = .ok (.astore 5, 2) := by decide +kernel
theorem dL_add_21 : decode cL_add 21 = .ok (.iconst 2, 1) := by decide +kernel
theorem dL_add_22 : decode cL_add 22 = .ok (.ireturn, 1) := by decide +kernel
theorem dL_add_23 : decode cL_add 23 = .ok (.astore 5, 2) := by decide +kernel
theorem dL_add_25 : decode cL_add 25 = .ok (.iconst 3, 1) := by decide +kernel
theorem dL_add_26 : decode cL_add 26 = .ok (.ireturn, 1) := by decide +kernel
theorem dL_add_27 : decode cL_add 27 = .ok (.iconst 0, 1) := by decide +kernel
theorem dL_add_28 : decode cL_add 28 = .ok (.ireturn, 1) := by decide +kernel
set_option maxRecDepth 20000 in
theorem ggL_pay_X4_pay : GoodIn wsL_pay wsX4_pay := goodIn_ca (goodIn_ca (goodIn_r _ [7, 8, 9, 10, 11, 12, 13, 14, 15, 16, 6, 17, 18, 19, 20, 21, 22, 23, 24, 25, 26, 27, 28, 29, 30, 31, 32, 33, 34, 35, 36, 37, 38, 39, 40, 41, 42, 43, 44, 45, 46, 47, 48, 49, 50, 51, 52, 53, 54, 55, 56, 57, 58, 59, 60, 61, 62, 63, 64, 65, 66, 67, 68, 69] (by decide +kernel) (by decide +kernel)) (goodIn_sub (fun _ h => List.mem_cons_of_mem _ (List.mem_append_left _ (List.mem_append_right _ h))) (by decide +kernel))) (goodIn_sub (fun _ h => List.mem_cons_of_mem _ (List.mem_append_right _ h)) (by decide +kernel))
set_option maxRecDepth 20000 in
theorem gL_pay_X4_pay : GoodIn wsL_pay (wsV RL 30 RX4 yX4_pay wsX4_pay) := goodIn_app (goodIn_of _ (by decide +kernel)) ggL_pay_X4_pay
theorem dL_pay_0 : decode cL_pay 0 = .ok (.aload_n 2, 1) := by decide +kernel
theorem dL_pay_1 : decode cL_pay 1 = .ok (.iconst 0, 1) := by decide +kernel
theorem dL_pay_2 : decode cL_pay 2 = .ok (.aload_n 0, 1) := by decide +kernel
theorem dL_pay_3 : decode cL_pay 3 = .ok (.iload_n 1, 1) := by decide +kernel
theorem dL_pay_4 : decode cL_pay 4 = .ok (.invokevirtual 30, 3) := by decide +kernel
theorem dL_pay_7 : decode cL_pay 7 = .ok (.i2l, 1) := by decide +kernel
theorem dL_pay_8 : decode cL_pay 8 = .ok (.lastore, 1) := by decide +kernel
theorem dL_pay_9 : decode cL_pay 9 = .ok (.goto 9, 3) := by decide +kernel
theorem dL_pay_12 : decode cL_pay 12 = .ok (.astore_n 3, 1) := by decide +kernel
theorem dL_pay_13 : decode cL_pay 13 = .ok (.iconst 1, 1) := by decide +kernel
theorem dL_pay_14 : decode cL_pay 14 = .ok (.ireturn, 1) := by decide +kernel
theorem dL_pay_15 : decode cL_pay 15 = .ok (.astore_n 3, 1) := by decide +kernel
theorem dL_pay_16 : decode cL_pay 16 = .ok (.iconst 2, 1) := by decide +kernel
theorem dL_pay_17 : decode cL_pay 17 = .ok (.ireturn, 1) := by decide +kernel
theorem dL_pay_18 : decode cL_pay 18 = .ok (.iconst 0, 1) := by decide +kernel
theorem dL_pay_19 : decode cL_pay 19 = .ok (.ireturn, 1) := by decide +kernel
set_option maxRecDepth 20000 in
theorem ggL_paid_X4_paid : GoodIn wsL_paid wsX4_paid := goodIn_ca (goodIn_r _ [6, 7, 8, 9, 10, 5, 11, 12, 13, 14, 15, 16, 17, 18, 19, 20, 21, 22, 23, 24, 25, 26, 27, 28, 29, 30, 31, 32, 33] (by decide +kernel) (by decide +kernel)) (goodIn_sub (fun _ h => List.mem_cons_of_mem _ (List.mem_append_right _ h)) (by decide +kernel))
set_option maxRecDepth 20000 in
theorem gL_paid_X4_paid : GoodIn wsL_paid (wsV RL 33 RX4 yX4_paid wsX4_paid) := goodIn_app (goodIn_of _ (by decide +kernel)) ggL_paid_X4_paid
theorem dL_paid_0 : decode cL_paid 0 = .ok (.aload_n 2, 1) := by decide +kernel
theorem dL_paid_1 : decode cL_paid 1 = .ok (.iconst 0, 1) := by decide +kernel
theorem dL_paid_2 : decode cL_paid 2 = .ok (.aload_n 0, 1) := by decide +kernel
theorem dL_paid_3 : decode cL_paid 3 = .ok (.iload_n 1, 1) := by decide +kernel
theorem dL_paid_4 : decode cL_paid 4 = .ok (.invokevirtual 33, 3) := by decide +kernel
theorem dL_paid_7 : decode cL_paid 7 = .ok (.i2l, 1) := by decide +kernel
theorem dL_paid_8 : decode cL_paid 8 = .ok (.lastore, 1) := by decide +kernel
theorem dL_paid_9 : decode cL_paid 9 = .ok (.goto 6, 3) := by decide +kernel
theorem dL_paid_12 : decode cL_paid 12 = .ok (.astore_n 3, 1) := by decide +kernel
theorem dL_paid_13 : decode cL_paid 13 = .ok (.iconst 1, 1) := by decide +kernel
theorem dL_paid_14 : decode cL_paid 14 = .ok (.ireturn, 1) := by decide +kernel
theorem dL_paid_15 : decode cL_paid 15 = .ok (.iconst 0, 1) := by decide +kernel
theorem dL_paid_16 : decode cL_paid 16 = .ok (.ireturn, 1) := by decide +kernel
set_option maxRecDepth 20000 in
theorem ggL_kept_X4_kept : GoodIn wsL_kept wsX4_kept := goodIn_ca (goodIn_r _ [6, 7, 8, 9, 10, 5, 11, 12, 13, 14, 15, 16, 17, 18, 19, 20, 21, 22, 23, 24, 25, 26, 27, 28, 29, 30, 31, 32, 33, 34, 35, 36, 37, 38, 39, 40, 41, 42, 43, 44, 45, 46, 47] (by decide +kernel) (by decide +kernel)) (goodIn_sub (fun _ h => List.mem_cons_of_mem _ (List.mem_append_right _ h)) (by decide +kernel))
set_option maxRecDepth 20000 in
theorem gL_kept_X4_kept : GoodIn wsL_kept (wsV RL 36 RX4 yX4_kept wsX4_kept) := goodIn_app (goodIn_of _ (by decide +kernel)) ggL_kept_X4_kept
theorem dL_kept_0 : decode cL_kept 0 = .ok (.aload_n 3, 1) := by decide +kernel
theorem dL_kept_1 : decode cL_kept 1 = .ok (.iconst 0, 1) := by decide +kernel
theorem dL_kept_2 : decode cL_kept 2 = .ok (.aload_n 0, 1) := by decide +kernel
theorem dL_kept_3 : decode cL_kept 3 = .ok (.iload_n 1, 1) := by decide +kernel
theorem dL_kept_4 : decode cL_kept 4 = .ok (.iload_n 2, 1) := by decide +kernel
theorem dL_kept_5 : decode cL_kept 5 = .ok (.invokevirtual 36, 3) := by decide +kernel
theorem dL_kept_8 : decode cL_kept 8 = .ok (.i2l, 1) := by decide +kernel
theorem dL_kept_9 : decode cL_kept 9 = .ok (.lastore, 1) := by decide +kernel
theorem dL_kept_10 : decode cL_kept 10 = .ok (.goto 7, 3) := by decide +kernel
theorem dL_kept_13 : decode cL_kept 13 = .ok (.astore 4, 2) := by decide +kernel
theorem dL_kept_15 : decode cL_kept 15 = .ok (.iconst 1, 1) := by decide +kernel
theorem dL_kept_16 : decode cL_kept 16 = .ok (.ireturn, 1) := by decide +kernel
theorem dL_kept_17 : decode cL_kept 17 = .ok (.iconst 0, 1) := by decide +kernel
theorem dL_kept_18 : decode cL_kept 18 = .ok (.ireturn, 1) := by decide +kernel
set_option maxRecDepth 20000 in
theorem ggL_keptValue_X4_keptValue : GoodIn wsL_keptValue wsX4_keptValue := goodIn_ca (goodIn_r _ [6, 7, 8, 9, 5, 10, 11, 12, 13, 14, 15, 16, 17, 18, 19, 20, 21, 22, 23, 24, 25, 26, 27, 28, 29, 30, 31, 32, 33, 34, 35, 36, 37, 38, 39, 40, 41, 42, 43, 44, 45, 46, 47, 48, 49, 50, 51, 52, 53, 54, 55] (by decide +kernel) (by decide +kernel)) (goodIn_sub (fun _ h => List.mem_cons_of_mem _ (List.mem_append_right _ h)) (by decide +kernel))
set_option maxRecDepth 20000 in
theorem gL_keptValue_X4_keptValue : GoodIn wsL_keptValue (wsV RL 40 RX4 yX4_keptValue wsX4_keptValue) := goodIn_app (goodIn_of _ (by decide +kernel)) ggL_keptValue_X4_keptValue
theorem dL_keptValue_0 : decode cL_keptValue 0 = .ok (.aload_n 2, 1) := by decide +kernel
theorem dL_keptValue_1 : decode cL_keptValue 1 = .ok (.iconst 0, 1) := by decide +kernel
theorem dL_keptValue_2 : decode cL_keptValue 2 = .ok (.aload_n 0, 1) := by decide +kernel
theorem dL_keptValue_3 : decode cL_keptValue 3 = .ok (.iload_n 1, 1) := by decide +kernel
theorem dL_keptValue_4 : decode cL_keptValue 4 = .ok (.invokevirtual 40, 3) := by decide +kernel
theorem dL_keptValue_7 : decode cL_keptValue 7 = .ok (.i2l, 1) := by decide +kernel
theorem dL_keptValue_8 : decode cL_keptValue 8 = .ok (.lastore, 1) := by decide +kernel
theorem dL_keptValue_9 : decode cL_keptValue 9 = .ok (.goto 6, 3) := by decide +kernel
theorem dL_keptValue_12 : decode cL_keptValue 12 = .ok (.astore_n 3, 1) := by decide +kernel
theorem dL_keptValue_13 : decode cL_keptValue 13 = .ok (.iconst 1, 1) := by decide +kernel
theorem dL_keptValue_14 : decode cL_keptValue 14 = .ok (.ireturn, 1) := by decide +kernel
theorem dL_keptValue_15 : decode cL_keptValue 15 = .ok (.iconst 0, 1) := by decide +kernel
theorem dL_keptValue_16 : decode cL_keptValue 16 = .ok (.ireturn, 1) := by decide +kernel
set_option maxRecDepth 20000 in
theorem ggL_lineValue_X4_lineValue : GoodIn wsL_lineValue wsX4_lineValue := goodIn_ca (goodIn_r _ [6, 7, 8, 9, 10, 11, 5, 12, 13, 14, 15, 16, 17, 18, 19, 20, 21, 22, 23, 24, 25, 26, 27, 28, 29, 30, 31, 32, 33, 34, 35, 36, 37, 38, 39, 40, 41, 42, 43, 44, 45, 46, 47, 48, 49, 50, 51, 52, 53, 54, 55, 56, 57, 58, 59, 60, 61, 62, 63, 64, 65, 66, 67, 68, 69, 70, 71, 72, 73, 74, 75, 76] (by decide +kernel) (by decide +kernel)) (goodIn_sub (fun _ h => List.mem_cons_of_mem _ (List.mem_append_right _ h)) (by decide +kernel))
set_option maxRecDepth 20000 in
theorem gL_lineValue_X4_lineValue : GoodIn wsL_lineValue (wsV RL 43 RX4 yX4_lineValue wsX4_lineValue) := goodIn_app (goodIn_of _ (by decide +kernel)) ggL_lineValue_X4_lineValue
theorem dL_lineValue_0 : decode cL_lineValue 0 = .ok (.aload_n 3, 1) := by decide +kernel
theorem dL_lineValue_1 : decode cL_lineValue 1 = .ok (.iconst 0, 1) := by decide +kernel
theorem dL_lineValue_2 : decode cL_lineValue 2 = .ok (.aload_n 0, 1) := by decide +kernel
theorem dL_lineValue_3 : decode cL_lineValue 3 = .ok (.iload_n 1, 1) := by decide +kernel
theorem dL_lineValue_4 : decode cL_lineValue 4 = .ok (.iload_n 2, 1) := by decide +kernel
theorem dL_lineValue_5 : decode cL_lineValue 5 = .ok (.invokevirtual 43, 3) := by decide +kernel
theorem dL_lineValue_8 : decode cL_lineValue 8 = .ok (.i2l, 1) := by decide +kernel
theorem dL_lineValue_9 : decode cL_lineValue 9 = .ok (.lastore, 1) := by decide +kernel
theorem dL_lineValue_10 : decode cL_lineValue 10 = .ok (.goto 7, 3) := by decide +kernel
theorem dL_lineValue_13 : decode cL_lineValue 13 = .ok (.astore 4, 2) := by decide +kernel
theorem dL_lineValue_15 : decode cL_lineValue 15 = .ok (.iconst 1, 1) := by decide +kernel
theorem dL_lineValue_16 : decode cL_lineValue 16 = .ok (.ireturn, 1) := by decide +kernel
theorem dL_lineValue_17 : decode cL_lineValue 17 = .ok (.iconst 0, 1) := by decide +kernel
theorem dL_lineValue_18 : decode cL_lineValue 18 = .ok (.ireturn, 1) := by decide +kernel
set_option maxRecDepth 20000 in
theorem ggL_giveBack_X4_giveBack : GoodIn wsL_giveBack wsX4_giveBack := goodIn_ca (goodIn_ca (goodIn_ca (goodIn_r _ [8, 9, 10, 11, 12, 13, 14, 15, 16, 17, 7, 18, 19, 20, 21, 22, 23, 24, 25, 26, 27, 28, 29, 30, 31, 32, 33, 34, 35, 36, 37, 38, 39, 40, 41, 42, 43, 44, 45, 46, 47, 48, 49, 50, 51, 52, 53, 54, 55, 56, 57, 58, 59, 60, 61, 62, 63, 64, 65, 66, 67, 68, 69, 70, 71, 72, 73, 74, 75, 76, 77, 78, 79, 80, 81, 82, 83, 84, 85, 86, 87, 88, 89, 90, 91, 92, 93, 94, 95, 96, 97, 98, 99, 100, 101, 102, 103, 104, 105, 106, 107, 108, 109, 110, 111, 112, 113, 114, 115, 116, 117, 118, 119, 120, 121, 122, 123, 124, 125, 126, 127, 128, 129, 130, 131, 132, 133, 134, 135, 136, 137, 138, 139, 140, 141, 142, 143, 144, 145, 146, 147, 148, 149, 150, 151, 152, 153, 154, 155, 156, 157, 158, 159, 160, 161, 162, 163, 164, 165, 166, 167, 168, 169] (by decide +kernel) (by decide +kernel)) (goodIn_sub (fun _ h => List.mem_cons_of_mem _ (List.mem_append_left _ (List.mem_append_left _ (List.mem_append_right _ h)))) (by decide +kernel))) (goodIn_sub (fun _ h => List.mem_cons_of_mem _ (List.mem_append_left _ (List.mem_append_right _ h))) (by decide +kernel))) (goodIn_sub (fun _ h => List.mem_cons_of_mem _ (List.mem_append_right _ h)) (by decide +kernel))
set_option maxRecDepth 20000 in
theorem gL_giveBack_X4_giveBack : GoodIn wsL_giveBack (wsV RL 46 RX4 yX4_giveBack wsX4_giveBack) := goodIn_app (goodIn_of _ (by decide +kernel)) ggL_giveBack_X4_giveBack
theorem dL_giveBack_0 : decode cL_giveBack 0 = .ok (.aload 5, 2) := by decide +kernel
theorem dL_giveBack_2 : decode cL_giveBack 2 = .ok (.iconst 0, 1) := by decide +kernel
theorem dL_giveBack_3 : decode cL_giveBack 3 = .ok (.aload_n 0, 1) := by decide +kernel
theorem dL_giveBack_4 : decode cL_giveBack 4 = .ok (.iload_n 1, 1) := by decide +kernel
theorem dL_giveBack_5 : decode cL_giveBack 5 = .ok (.iload_n 2, 1) := by decide +kernel
theorem dL_giveBack_6 : decode cL_giveBack 6 = .ok (.iload_n 3, 1) := by decide +kernel
theorem dL_giveBack_7 : decode cL_giveBack 7 = .ok (.iload 4, 2) := by decide +kernel
theorem dL_giveBack_9 : decode cL_giveBack 9 = .ok (.invokevirtual 46, 3) := by decide +kernel
theorem dL_giveBack_12 : decode cL_giveBack 12 = .ok (.i2l, 1) := by decide +kernel
theorem dL_giveBack_13 : decode cL_giveBack 13 = .ok (.lastore, 1) := by decide +kernel
theorem dL_giveBack_14 : decode cL_giveBack 14 = .ok (.goto 15, 3) := by decide +kernel
theorem dL_giveBack_17 : decode cL_giveBack 17 = .ok (.astore 6, 2) := by decide +kernel
theorem dL_giveBack_19 : decode cL_giveBack 19 = .ok (.iconst 1, 1) := by decide +kernel
theorem dL_giveBack_20 : decode cL_giveBack 20 = .ok (.ireturn, 1) := by decide +kernel
theorem dL_giveBack_21 : decode cL_giveBack 21 = .ok (.astore 6, 2) := by decide +kernel
theorem dL_giveBack_23 : decode cL_giveBack 23 = .ok (.iconst 2, 1) := by decide +kernel
theorem dL_giveBack_24 : decode cL_giveBack 24 = .ok (.ireturn, 1) := by decide +kernel
theorem dL_giveBack_25 : decode cL_giveBack 25 = .ok (.astore 6, 2) := by decide +kernel
theorem dL_giveBack_27 : decode cL_giveBack 27 = .ok (.iconst 3, 1) := by decide +kernel
theorem dL_giveBack_28 : decode cL_giveBack 28 = .ok (.ireturn, 1) := by decide +kernel
theorem dL_giveBack_29 : decode cL_giveBack 29 = .ok (.iconst 0, 1) := by decide +kernel
theorem dL_giveBack_30 : decode cL_giveBack 30 = .ok (.ireturn, 1) := by decide +kernel
set_option maxRecDepth 20000 in
theorem ggL_exchange_X4_exchange : GoodIn wsL_exchange wsX4_exchange := goodIn_ca (goodIn_ca (goodIn_ca (goodIn_r _ [8, 9, 10, 11, 12, 13, 14, 15, 16, 17, 18, 19, 20, 21, 22, 23, 24, 25, 26, 7, 27, 28, 29, 30, 31, 32, 33, 34, 35, 36, 37, 38, 39, 40, 41, 42, 43, 44, 45, 46, 47, 48, 49, 50, 51, 52, 53, 54, 55, 56, 57, 58, 59, 60, 61, 62, 63, 64, 65, 66, 67, 68, 69, 70, 71, 72, 73, 74, 75, 76, 77, 78, 79, 80, 81, 82, 83, 84, 85, 86, 87, 88, 89, 90, 91, 92, 93, 94, 95, 96, 97, 98, 99, 100, 101, 102, 103, 104, 105, 106, 107, 108, 109, 110, 111, 112, 113, 114, 115, 116, 117, 118, 119, 120, 121, 122, 123, 124, 125, 126, 127, 128, 129, 130, 131, 132, 133, 134, 135, 136, 137, 138, 139, 140, 141, 142, 143, 144, 145, 146, 147, 148, 149, 150, 151, 152, 153, 154, 155, 156, 157, 158, 159, 160, 161, 162, 163, 164, 165, 166, 167, 168, 169, 170, 171, 172, 173, 174, 175, 176, 177, 178, 179, 180, 181, 182, 183, 184, 185, 186, 187, 188, 189, 190, 191, 192, 193, 194, 195, 196, 197, 198, 199, 200, 201, 202, 203, 204, 205, 206, 207, 208, 209, 210, 211, 212, 213, 214, 215] (by decide +kernel) (by decide +kernel)) (goodIn_sub (fun _ h => List.mem_cons_of_mem _ (List.mem_append_left _ (List.mem_append_left _ (List.mem_append_right _ h)))) (by decide +kernel))) (goodIn_sub (fun _ h => List.mem_cons_of_mem _ (List.mem_append_left _ (List.mem_append_right _ h))) (by decide +kernel))) (goodIn_sub (fun _ h => List.mem_cons_of_mem _ (List.mem_append_right _ h)) (by decide +kernel))
set_option maxRecDepth 20000 in
theorem gL_exchange_X4_exchange : GoodIn wsL_exchange (wsV RL 49 RX4 yX4_exchange wsX4_exchange) := goodIn_app (goodIn_of _ (by decide +kernel)) ggL_exchange_X4_exchange
theorem dL_exchange_0 : decode cL_exchange 0 = .ok (.aload 6, 2) := by decide +kernel
theorem dL_exchange_2 : decode cL_exchange 2 = .ok (.iconst 0, 1) := by decide +kernel
theorem dL_exchange_3 : decode cL_exchange 3 = .ok (.aload_n 0, 1) := by decide +kernel
theorem dL_exchange_4 : decode cL_exchange 4 = .ok (.iload_n 1, 1) := by decide +kernel
theorem dL_exchange_5 : decode cL_exchange 5 = .ok (.iload_n 2, 1) := by decide +kernel
theorem dL_exchange_6 : decode cL_exchange 6 = .ok (.iload_n 3, 1) := by decide +kernel
theorem dL_exchange_7 : decode cL_exchange 7 = .ok (.iload 4, 2) := by decide +kernel
theorem dL_exchange_9 : decode cL_exchange 9 = .ok (.iload 5, 2) := by decide +kernel
theorem dL_exchange_11 : decode cL_exchange 11 = .ok (.invokevirtual 49, 3) := by decide +kernel
theorem dL_exchange_14 : decode cL_exchange 14 = .ok (.i2l, 1) := by decide +kernel
theorem dL_exchange_15 : decode cL_exchange 15 = .ok (.lastore, 1) := by decide +kernel
theorem dL_exchange_16 : decode cL_exchange 16 = .ok (.goto 15, 3) := by decide +kernel
theorem dL_exchange_19 : decode cL_exchange 19 = .ok (.astore 7, 2) := by decide +kernel
theorem dL_exchange_21 : decode cL_exchange 21 = .ok (.iconst 1, 1) := by decide +kernel
theorem dL_exchange_22 : decode cL_exchange 22 = .ok (.ireturn, 1) := by decide +kernel
theorem dL_exchange_23 : decode cL_exchange 23 = .ok (.astore 7, 2) := by decide +kernel
theorem dL_exchange_25 : decode cL_exchange 25 = .ok (.iconst 2, 1) := by decide +kernel
theorem dL_exchange_26 : decode cL_exchange 26 = .ok (.ireturn, 1) := by decide +kernel
theorem dL_exchange_27 : decode cL_exchange 27 = .ok (.astore 7, 2) := by decide +kernel
theorem dL_exchange_29 : decode cL_exchange 29 = .ok (.iconst 3, 1) := by decide +kernel
theorem dL_exchange_30 : decode cL_exchange 30 = .ok (.ireturn, 1) := by decide +kernel
theorem dL_exchange_31 : decode cL_exchange 31 = .ok (.iconst 0, 1) := by decide +kernel
theorem dL_exchange_32 : decode cL_exchange 32 = .ok (.ireturn, 1) := by decide +kernel
set_option maxRecDepth 20000 in
theorem ggL_quote_X4_quote : GoodIn wsL_quote wsX4_quote := goodIn_ca (goodIn_ca (goodIn_ca (goodIn_r _ [8, 9, 10, 11, 12, 13, 14, 15, 7, 16, 17, 18, 19, 20, 21, 22, 23, 24, 25, 26, 27, 28, 29, 30, 31, 32, 33, 34, 35, 36, 37, 38, 39, 40, 41, 42, 43, 44, 45, 46, 47, 48, 49, 50, 51, 52, 53, 54, 55, 56, 57, 58, 59, 60, 61, 62, 63, 64, 65, 66, 67, 68, 69, 70, 71, 72, 73, 74, 75, 76, 77, 78, 79, 80, 81, 82, 83, 84, 85, 86, 87, 88, 89, 90, 91, 92, 93, 94, 95, 96, 97, 98, 99] (by decide +kernel) (by decide +kernel)) (goodIn_sub (fun _ h => List.mem_cons_of_mem _ (List.mem_append_left _ (List.mem_append_left _ (List.mem_append_right _ h)))) (by decide +kernel))) (goodIn_sub (fun _ h => List.mem_cons_of_mem _ (List.mem_append_left _ (List.mem_append_right _ h))) (by decide +kernel))) (goodIn_sub (fun _ h => List.mem_cons_of_mem _ (List.mem_append_right _ h)) (by decide +kernel))
set_option maxRecDepth 20000 in
theorem gL_quote_X4_quote : GoodIn wsL_quote (wsV RL 53 RX4 yX4_quote wsX4_quote) := goodIn_app (goodIn_of _ (by decide +kernel)) ggL_quote_X4_quote
theorem dL_quote_0 : decode cL_quote 0 = .ok (.aload 5, 2) := by decide +kernel
theorem dL_quote_2 : decode cL_quote 2 = .ok (.iconst 0, 1) := by decide +kernel
theorem dL_quote_3 : decode cL_quote 3 = .ok (.aload_n 0, 1) := by decide +kernel
theorem dL_quote_4 : decode cL_quote 4 = .ok (.iload_n 1, 1) := by decide +kernel
theorem dL_quote_5 : decode cL_quote 5 = .ok (.iload_n 2, 1) := by decide +kernel
theorem dL_quote_6 : decode cL_quote 6 = .ok (.iload_n 3, 1) := by decide +kernel
theorem dL_quote_7 : decode cL_quote 7 = .ok (.iload 4, 2) := by decide +kernel
theorem dL_quote_9 : decode cL_quote 9 = .ok (.invokevirtual 53, 3) := by decide +kernel
theorem dL_quote_12 : decode cL_quote 12 = .ok (.i2l, 1) := by decide +kernel
theorem dL_quote_13 : decode cL_quote 13 = .ok (.lastore, 1) := by decide +kernel
theorem dL_quote_14 : decode cL_quote 14 = .ok (.goto 15, 3) := by decide +kernel
theorem dL_quote_17 : decode cL_quote 17 = .ok (.astore 6, 2) := by decide +kernel
theorem dL_quote_19 : decode cL_quote 19 = .ok (.iconst 1, 1) := by decide +kernel
theorem dL_quote_20 : decode cL_quote 20 = .ok (.ireturn, 1) := by decide +kernel
theorem dL_quote_21 : decode cL_quote 21 = .ok (.astore 6, 2) := by decide +kernel
theorem dL_quote_23 : decode cL_quote 23 = .ok (.iconst 2, 1) := by decide +kernel
theorem dL_quote_24 : decode cL_quote 24 = .ok (.ireturn, 1) := by decide +kernel
theorem dL_quote_25 : decode cL_quote 25 = .ok (.astore 6, 2) := by decide +kernel
theorem dL_quote_27 : decode cL_quote 27 = .ok (.iconst 3, 1) := by decide +kernel
theorem dL_quote_28 : decode cL_quote 28 = .ok (.ireturn, 1) := by decide +kernel
theorem dL_quote_29 : decode cL_quote 29 = .ok (.iconst 0, 1) := by decide +kernel
theorem dL_quote_30 : decode cL_quote 30 = .ok (.ireturn, 1) := by decide +kernel
set_option maxRecDepth 20000 in
theorem ggL_released_X4_released : GoodIn wsL_released wsX4_released := goodIn_ca (goodIn_r _ [6, 7, 8, 9, 10, 5, 11, 12, 13, 14, 15, 16, 17, 18, 19, 20, 21, 22, 23, 24, 25, 26, 27, 28, 29, 30, 31, 32, 33] (by decide +kernel) (by decide +kernel)) (goodIn_sub (fun _ h => List.mem_cons_of_mem _ (List.mem_append_right _ h)) (by decide +kernel))
set_option maxRecDepth 20000 in
theorem gL_released_X4_released : GoodIn wsL_released (wsV RL 56 RX4 yX4_released wsX4_released) := goodIn_app (goodIn_of _ (by decide +kernel)) ggL_released_X4_released
theorem dL_released_0 : decode cL_released 0 = .ok (.aload_n 2, 1) := by decide +kernel
theorem dL_released_1 : decode cL_released 1 = .ok (.iconst 0, 1) := by decide +kernel
theorem dL_released_2 : decode cL_released 2 = .ok (.aload_n 0, 1) := by decide +kernel
theorem dL_released_3 : decode cL_released 3 = .ok (.iload_n 1, 1) := by decide +kernel
theorem dL_released_4 : decode cL_released 4 = .ok (.invokevirtual 56, 3) := by decide +kernel
theorem dL_released_7 : decode cL_released 7 = .ok (.i2l, 1) := by decide +kernel
theorem dL_released_8 : decode cL_released 8 = .ok (.lastore, 1) := by decide +kernel
theorem dL_released_9 : decode cL_released 9 = .ok (.goto 6, 3) := by decide +kernel
theorem dL_released_12 : decode cL_released 12 = .ok (.astore_n 3, 1) := by decide +kernel
theorem dL_released_13 : decode cL_released 13 = .ok (.iconst 1, 1) := by decide +kernel
theorem dL_released_14 : decode cL_released 14 = .ok (.ireturn, 1) := by decide +kernel
theorem dL_released_15 : decode cL_released 15 = .ok (.iconst 0, 1) := by decide +kernel
theorem dL_released_16 : decode cL_released 16 = .ok (.ireturn, 1) := by decide +kernel
set_option maxRecDepth 20000 in
theorem ggL_firstSale_X4_firstSale : GoodIn wsL_firstSale wsX4_firstSale := goodIn_ca (goodIn_r _ [6, 7, 8, 9, 10, 5, 11, 12, 13, 14, 15, 16, 17, 18, 19, 20, 21, 22, 23, 24, 25, 26, 27, 28, 29, 30, 31, 32, 33] (by decide +kernel) (by decide +kernel)) (goodIn_sub (fun _ h => List.mem_cons_of_mem _ (List.mem_append_right _ h)) (by decide +kernel))
set_option maxRecDepth 20000 in
theorem gL_firstSale_X4_firstSale : GoodIn wsL_firstSale (wsV RL 59 RX4 yX4_firstSale wsX4_firstSale) := goodIn_app (goodIn_of _ (by decide +kernel)) ggL_firstSale_X4_firstSale
theorem dL_firstSale_0 : decode cL_firstSale 0 = .ok (.aload_n 2, 1) := by decide +kernel
theorem dL_firstSale_1 : decode cL_firstSale 1 = .ok (.iconst 0, 1) := by decide +kernel
theorem dL_firstSale_2 : decode cL_firstSale 2 = .ok (.aload_n 0, 1) := by decide +kernel
theorem dL_firstSale_3 : decode cL_firstSale 3 = .ok (.iload_n 1, 1) := by decide +kernel
theorem dL_firstSale_4 : decode cL_firstSale 4 = .ok (.invokevirtual 59, 3) := by decide +kernel
theorem dL_firstSale_7 : decode cL_firstSale 7 = .ok (.i2l, 1) := by decide +kernel
theorem dL_firstSale_8 : decode cL_firstSale 8 = .ok (.lastore, 1) := by decide +kernel
theorem dL_firstSale_9 : decode cL_firstSale 9 = .ok (.goto 6, 3) := by decide +kernel
theorem dL_firstSale_12 : decode cL_firstSale 12 = .ok (.astore_n 3, 1) := by decide +kernel
theorem dL_firstSale_13 : decode cL_firstSale 13 = .ok (.iconst 1, 1) := by decide +kernel
theorem dL_firstSale_14 : decode cL_firstSale 14 = .ok (.ireturn, 1) := by decide +kernel
theorem dL_firstSale_15 : decode cL_firstSale 15 = .ok (.iconst 0, 1) := by decide +kernel
theorem dL_firstSale_16 : decode cL_firstSale 16 = .ok (.ireturn, 1) := by decide +kernel
set_option maxRecDepth 20000 in
theorem ggL_exchanges_X4_exchanges : GoodIn wsL_exchanges wsX4_exchanges := goodIn_ca (goodIn_r _ [6, 7, 8, 9, 10, 5, 11, 12, 13, 14, 15, 16, 17, 18, 19, 20, 21, 22, 23, 24, 25, 26, 27, 28, 29, 30, 31, 32, 33] (by decide +kernel) (by decide +kernel)) (goodIn_sub (fun _ h => List.mem_cons_of_mem _ (List.mem_append_right _ h)) (by decide +kernel))
set_option maxRecDepth 20000 in
theorem gL_exchanges_X4_exchanges : GoodIn wsL_exchanges (wsV RL 62 RX4 yX4_exchanges wsX4_exchanges) := goodIn_app (goodIn_of _ (by decide +kernel)) ggL_exchanges_X4_exchanges
theorem dL_exchanges_0 : decode cL_exchanges 0 = .ok (.aload_n 2, 1) := by decide +kernel
theorem dL_exchanges_1 : decode cL_exchanges 1 = .ok (.iconst 0, 1) := by decide +kernel
theorem dL_exchanges_2 : decode cL_exchanges 2 = .ok (.aload_n 0, 1) := by decide +kernel
theorem dL_exchanges_3 : decode cL_exchanges 3 = .ok (.iload_n 1, 1) := by decide +kernel
theorem dL_exchanges_4 : decode cL_exchanges 4 = .ok (.invokevirtual 62, 3) := by decide +kernel
theorem dL_exchanges_7 : decode cL_exchanges 7 = .ok (.i2l, 1) := by decide +kernel
theorem dL_exchanges_8 : decode cL_exchanges 8 = .ok (.lastore, 1) := by decide +kernel
theorem dL_exchanges_9 : decode cL_exchanges 9 = .ok (.goto 6, 3) := by decide +kernel
theorem dL_exchanges_12 : decode cL_exchanges 12 = .ok (.astore_n 3, 1) := by decide +kernel
theorem dL_exchanges_13 : decode cL_exchanges 13 = .ok (.iconst 1, 1) := by decide +kernel
theorem dL_exchanges_14 : decode cL_exchanges 14 = .ok (.ireturn, 1) := by decide +kernel
theorem dL_exchanges_15 : decode cL_exchanges 15 = .ok (.iconst 0, 1) := by decide +kernel
theorem dL_exchanges_16 : decode cL_exchanges 16 = .ok (.ireturn, 1) := by decide +kernel
set_option maxRecDepth 20000 in
theorem ggL_bestOption_X4_bestOption : GoodIn wsL_bestOption wsX4_bestOption := goodIn_ca (goodIn_r _ [6, 7, 8, 9, 10, 11, 5, 12, 13, 14, 15, 16, 17, 18, 19, 20, 21, 22, 23, 24, 25, 26, 27, 28, 29, 30, 31, 32, 33, 34, 35, 36, 37, 38, 39, 40, 41, 42, 43, 44, 45, 46, 47, 48, 49, 50, 51, 52, 53, 54, 55, 56, 57] (by decide +kernel) (by decide +kernel)) (goodIn_sub (fun _ h => List.mem_cons_of_mem _ (List.mem_append_right _ h)) (by decide +kernel))
set_option maxRecDepth 20000 in
theorem gL_bestOption_X4_bestOption : GoodIn wsL_bestOption (wsV RL 65 RX4 yX4_bestOption wsX4_bestOption) := goodIn_app (goodIn_of _ (by decide +kernel)) ggL_bestOption_X4_bestOption
theorem dL_bestOption_0 : decode cL_bestOption 0 = .ok (.aload_n 3, 1) := by decide +kernel
theorem dL_bestOption_1 : decode cL_bestOption 1 = .ok (.iconst 0, 1) := by decide +kernel
theorem dL_bestOption_2 : decode cL_bestOption 2 = .ok (.aload_n 0, 1) := by decide +kernel
theorem dL_bestOption_3 : decode cL_bestOption 3 = .ok (.iload_n 1, 1) := by decide +kernel
theorem dL_bestOption_4 : decode cL_bestOption 4 = .ok (.iload_n 2, 1) := by decide +kernel
theorem dL_bestOption_5 : decode cL_bestOption 5 = .ok (.invokevirtual 65, 3) := by decide +kernel
theorem dL_bestOption_8 : decode cL_bestOption 8 = .ok (.i2l, 1) := by decide +kernel
theorem dL_bestOption_9 : decode cL_bestOption 9 = .ok (.lastore, 1) := by decide +kernel
theorem dL_bestOption_10 : decode cL_bestOption 10 = .ok (.goto 7, 3) := by decide +kernel
theorem dL_bestOption_13 : decode cL_bestOption 13 = .ok (.astore 4, 2) := by decide +kernel
theorem dL_bestOption_15 : decode cL_bestOption 15 = .ok (.iconst 1, 1) := by decide +kernel
theorem dL_bestOption_16 : decode cL_bestOption 16 = .ok (.ireturn, 1) := by decide +kernel
theorem dL_bestOption_17 : decode cL_bestOption 17 = .ok (.iconst 0, 1) := by decide +kernel
theorem dL_bestOption_18 : decode cL_bestOption 18 = .ok (.ireturn, 1) := by decide +kernel
set_option maxRecDepth 20000 in
theorem ggL_bestWorth_X4_bestWorth : GoodIn wsL_bestWorth wsX4_bestWorth := goodIn_ca (goodIn_r _ [6, 7, 8, 9, 10, 11, 5, 12, 13, 14, 15, 16, 17, 18, 19, 20, 21, 22, 23, 24, 25, 26, 27, 28, 29, 30, 31, 32, 33, 34, 35, 36, 37, 38, 39, 40, 41, 42, 43, 44, 45, 46, 47, 48, 49, 50, 51, 52, 53, 54, 55, 56, 57, 58] (by decide +kernel) (by decide +kernel)) (goodIn_sub (fun _ h => List.mem_cons_of_mem _ (List.mem_append_right _ h)) (by decide +kernel))
set_option maxRecDepth 20000 in
theorem gL_bestWorth_X4_bestWorth : GoodIn wsL_bestWorth (wsV RL 68 RX4 yX4_bestWorth wsX4_bestWorth) := goodIn_app (goodIn_of _ (by decide +kernel)) ggL_bestWorth_X4_bestWorth
theorem dL_bestWorth_0 : decode cL_bestWorth 0 = .ok (.aload_n 3, 1) := by decide +kernel
theorem dL_bestWorth_1 : decode cL_bestWorth 1 = .ok (.iconst 0, 1) := by decide +kernel
theorem dL_bestWorth_2 : decode cL_bestWorth 2 = .ok (.aload_n 0, 1) := by decide +kernel
theorem dL_bestWorth_3 : decode cL_bestWorth 3 = .ok (.iload_n 1, 1) := by decide +kernel
theorem dL_bestWorth_4 : decode cL_bestWorth 4 = .ok (.iload_n 2, 1) := by decide +kernel
theorem dL_bestWorth_5 : decode cL_bestWorth 5 = .ok (.invokevirtual 68, 3) := by decide +kernel
theorem dL_bestWorth_8 : decode cL_bestWorth 8 = .ok (.i2l, 1) := by decide +kernel
theorem dL_bestWorth_9 : decode cL_bestWorth 9 = .ok (.lastore, 1) := by decide +kernel
theorem dL_bestWorth_10 : decode cL_bestWorth 10 = .ok (.goto 7, 3) := by decide +kernel
theorem dL_bestWorth_13 : decode cL_bestWorth 13 = .ok (.astore 4, 2) := by decide +kernel
theorem dL_bestWorth_15 : decode cL_bestWorth 15 = .ok (.iconst 1, 1) := by decide +kernel
theorem dL_bestWorth_16 : decode cL_bestWorth 16 = .ok (.ireturn, 1) := by decide +kernel
theorem dL_bestWorth_17 : decode cL_bestWorth 17 = .ok (.iconst 0, 1) := by decide +kernel
theorem dL_bestWorth_18 : decode cL_bestWorth 18 = .ok (.ireturn, 1) := by decide +kernel
set_option maxRecDepth 20000 in
theorem ggL_stock_X4_stock : GoodIn wsL_stock wsX4_stock := goodIn_ca (goodIn_r _ [6, 7, 8, 9, 10, 11, 5, 12, 13, 14, 15, 16, 17, 18, 19, 20, 21, 22, 23, 24, 25, 26, 27, 28, 29] (by decide +kernel) (by decide +kernel)) (goodIn_sub (fun _ h => List.mem_cons_of_mem _ (List.mem_append_right _ h)) (by decide +kernel))
set_option maxRecDepth 20000 in
theorem gL_stock_X4_stock : GoodIn wsL_stock (wsV RL 71 RX4 yX4_stock wsX4_stock) := goodIn_app (goodIn_of _ (by decide +kernel)) ggL_stock_X4_stock
theorem dL_stock_0 : decode cL_stock 0 = .ok (.aload_n 3, 1) := by decide +kernel
theorem dL_stock_1 : decode cL_stock 1 = .ok (.iconst 0, 1) := by decide +kernel
theorem dL_stock_2 : decode cL_stock 2 = .ok (.aload_n 0, 1) := by decide +kernel
theorem dL_stock_3 : decode cL_stock 3 = .ok (.iload_n 1, 1) := by decide +kernel
theorem dL_stock_4 : decode cL_stock 4 = .ok (.iload_n 2, 1) := by decide +kernel
theorem dL_stock_5 : decode cL_stock 5 = .ok (.invokevirtual 71, 3) := by decide +kernel
theorem dL_stock_8 : decode cL_stock 8 = .ok (.i2l, 1) := by decide +kernel
theorem dL_stock_9 : decode cL_stock 9 = .ok (.lastore, 1) := by decide +kernel
theorem dL_stock_10 : decode cL_stock 10 = .ok (.goto 7, 3) := by decide +kernel
theorem dL_stock_13 : decode cL_stock 13 = .ok (.astore 4, 2) := by decide +kernel
theorem dL_stock_15 : decode cL_stock 15 = .ok (.iconst 1, 1) := by decide +kernel
theorem dL_stock_16 : decode cL_stock 16 = .ok (.ireturn, 1) := by decide +kernel
theorem dL_stock_17 : decode cL_stock 17 = .ok (.iconst 0, 1) := by decide +kernel
theorem dL_stock_18 : decode cL_stock 18 = .ok (.ireturn, 1) := by decide +kernel
set_option maxRecDepth 20000 in
theorem ggL_test_X4_test : GoodIn wsL_test wsX4_test := goodIn_ca (goodIn_ca (goodIn_r _ [7, 8, 9, 10, 11, 12, 13, 14, 6, 15, 16, 17, 18, 19, 20, 21, 22, 23, 24, 25, 26, 27, 28, 29, 30, 31, 32, 33, 34, 35, 36, 37, 38, 39, 40, 41, 42, 43, 44, 45, 46, 47, 48, 49, 50, 51, 52, 53, 54, 55, 56, 57, 58, 59, 60, 61, 62, 63, 64, 65, 66] (by decide +kernel) (by decide +kernel)) (goodIn_sub (fun _ h => List.mem_cons_of_mem _ (List.mem_append_left _ (List.mem_append_right _ h))) (by decide +kernel))) (goodIn_sub (fun _ h => List.mem_cons_of_mem _ (List.mem_append_right _ h)) (by decide +kernel))
set_option maxRecDepth 20000 in
theorem gL_test_X4_test : GoodIn wsL_test (wsV RL 74 RX4 yX4_test wsX4_test) := goodIn_app (goodIn_of _ (by decide +kernel)) ggL_test_X4_test
theorem dL_test_0 : decode cL_test 0 = .ok (.aload_n 3, 1) := by decide +kernel
theorem dL_test_1 : decode cL_test 1 = .ok (.iconst 0, 1) := by decide +kernel
theorem dL_test_2 : decode cL_test 2 = .ok (.aload_n 0, 1) := by decide +kernel
theorem dL_test_3 : decode cL_test 3 = .ok (.iload_n 1, 1) := by decide +kernel
theorem dL_test_4 : decode cL_test 4 = .ok (.iload_n 2, 1) := by decide +kernel
theorem dL_test_5 : decode cL_test 5 = .ok (.invokevirtual 74, 3) := by decide +kernel
theorem dL_test_8 : decode cL_test 8 = .ok (.i2l, 1) := by decide +kernel
theorem dL_test_9 : decode cL_test 9 = .ok (.lastore, 1) := by decide +kernel
theorem dL_test_10 : decode cL_test 10 = .ok (.goto 11, 3) := by decide +kernel
theorem dL_test_13 : decode cL_test 13 = .ok (.astore 4, 2) := by decide +kernel
theorem dL_test_15 : decode cL_test 15 = .ok (.iconst 1, 1) := by decide +kernel
theorem dL_test_16 : decode cL_test 16 = .ok (.ireturn, 1) := by decide +kernel
theorem dL_test_17 : decode cL_test 17 = .ok (.astore 4, 2) := by decide +kernel
theorem dL_test_19 : decode cL_test 19 = .ok (.iconst 2, 1) := by decide +kernel
theorem dL_test_20 : decode cL_test 20 = .ok (.ireturn, 1) := by decide +kernel
theorem dL_test_21 : decode cL_test 21 = .ok (.iconst 0, 1) := by decide +kernel
theorem dL_test_22 : decode cL_test 22 = .ok (.ireturn, 1) := by decide +kernel
set_option maxRecDepth 20000 in
theorem ggL_score_X4_score : GoodIn wsL_score wsX4_score := goodIn_ca (goodIn_r _ [6, 7, 8, 9, 10, 11, 12, 5, 13, 14, 15, 16, 17, 18, 19, 20, 21, 22, 23, 24, 25, 26, 27, 28, 29, 30, 31, 32, 33] (by decide +kernel) (by decide +kernel)) (goodIn_sub (fun _ h => List.mem_cons_of_mem _ (List.mem_append_right _ h)) (by decide +kernel))
set_option maxRecDepth 20000 in
theorem gL_score_X4_score : GoodIn wsL_score (wsV RL 78 RX4 yX4_score wsX4_score) := goodIn_app (goodIn_of _ (by decide +kernel)) ggL_score_X4_score
theorem dL_score_0 : decode cL_score 0 = .ok (.aload_n 2, 1) := by decide +kernel
theorem dL_score_1 : decode cL_score 1 = .ok (.iconst 0, 1) := by decide +kernel
theorem dL_score_2 : decode cL_score 2 = .ok (.aload_n 0, 1) := by decide +kernel
theorem dL_score_3 : decode cL_score 3 = .ok (.iload_n 1, 1) := by decide +kernel
theorem dL_score_4 : decode cL_score 4 = .ok (.invokevirtual 78, 3) := by decide +kernel
theorem dL_score_7 : decode cL_score 7 = .ok (.i2l, 1) := by decide +kernel
theorem dL_score_8 : decode cL_score 8 = .ok (.lastore, 1) := by decide +kernel
theorem dL_score_9 : decode cL_score 9 = .ok (.goto 6, 3) := by decide +kernel
theorem dL_score_12 : decode cL_score 12 = .ok (.astore_n 3, 1) := by decide +kernel
theorem dL_score_13 : decode cL_score 13 = .ok (.iconst 1, 1) := by decide +kernel
theorem dL_score_14 : decode cL_score 14 = .ok (.ireturn, 1) := by decide +kernel
theorem dL_score_15 : decode cL_score 15 = .ok (.iconst 0, 1) := by decide +kernel
theorem dL_score_16 : decode cL_score 16 = .ok (.ireturn, 1) := by decide +kernel
set_option maxRecDepth 20000 in
theorem ggL_law_X4_init : GoodIn wsL_law wsX4_init := goodIn_r _ [9, 10, 11, 12, 13, 14, 15, 16, 17, 18, 19, 20, 21, 22, 23, 24, 25, 26, 27, 28, 29, 30, 31, 32, 33, 34, 35, 36, 37, 621, 622, 623, 624, 625, 626, 652, 653, 654, 655, 656, 657, 658, 659] (by decide +kernel) (by decide +kernel)
set_option maxRecDepth 20000 in
theorem gL_law_X4_init : GoodIn wsL_law (wsX4_init) := ggL_law_X4_init
set_option maxRecDepth 20000 in
theorem ggL_law_X5_init : GoodIn wsL_law wsX5_init := goodIn_r _ [40, 41, 11, 12, 29, 42, 43, 44, 45, 46, 47, 48, 49, 50, 51, 52, 53, 54, 55, 56, 57, 58, 36, 59, 6, 60, 61, 627, 628, 629, 630, 631, 632, 633, 634, 635, 636, 637, 638, 639, 640, 641, 642, 643, 644, 645, 646, 647, 648, 649, 650, 651] (by decide +kernel) (by decide +kernel)
set_option maxRecDepth 20000 in
theorem gL_law_X5_init : GoodIn wsL_law (wsX5_init) := ggL_law_X5_init
set_option maxRecDepth 20000 in
theorem ggL_law_L_setProduct : GoodIn wsL_law wsL_setProduct := goodIn_ca (goodIn_r _ [65, 66, 67, 68, 69, 2, 70, 71, 72, 73, 74, 75, 76, 77, 78, 79, 80, 14, 81, 82, 83, 652, 653, 654, 655, 621, 622, 623, 624, 625, 626] (by decide +kernel) (by decide +kernel)) (goodIn_sub (fun _ h => List.mem_append_left _ (List.mem_append_left _ (List.mem_append_right _ h))) (by decide +kernel))
set_option maxRecDepth 20000 in
theorem gL_law_L_setProduct : GoodIn wsL_law (va_wsS RL 85 yL_setProduct wsL_setProduct) := goodIn_app (goodIn_of _ (by decide +kernel)) ggL_law_L_setProduct
set_option maxRecDepth 20000 in
theorem ggL_law_X5_setProduct : GoodIn wsL_law wsX5_setProduct := goodIn_r _ [87, 88, 42, 43, 44, 89, 90, 5, 91, 92, 93, 94, 95, 96, 97, 98, 99, 627, 628, 629, 630, 631, 632, 633, 634, 635, 636, 637, 638, 639, 640, 641, 642, 643, 644, 645, 646, 647, 648, 649, 650, 651] (by decide +kernel) (by decide +kernel)
set_option maxRecDepth 20000 in
theorem gL_law_X5_setProduct : GoodIn wsL_law (wsV RL 90 RX5 yX5_setProduct wsX5_setProduct) := goodIn_app (goodIn_of _ (by decide +kernel)) ggL_law_X5_setProduct
set_option maxRecDepth 20000 in
theorem ggL_law_X5_thrown : GoodIn wsL_law wsX5_thrown := goodIn_r _ [103, 99, 627, 628, 629, 630, 631, 632, 633, 634, 635, 636, 637, 638, 639, 640, 641, 642, 643, 644, 645, 646, 647, 648, 649, 650, 651] (by decide +kernel) (by decide +kernel)
set_option maxRecDepth 20000 in
theorem gL_law_X5_thrown : GoodIn wsL_law (wsV RL 91 RX5 yX5_thrown wsX5_thrown) := goodIn_app (goodIn_of _ (by decide +kernel)) ggL_law_X5_thrown
set_option maxRecDepth 20000 in
theorem ggL_law_L_pass : GoodIn wsL_law wsL_pass := goodIn_ca (goodIn_ca (goodIn_r _ [106, 66, 107, 108, 109, 110, 2, 111, 71, 72, 112, 113, 114, 73, 621, 622, 623, 624, 625, 626] (by decide +kernel) (by decide +kernel)) (goodIn_sub (fun _ h => List.mem_append_left _ (List.mem_append_left _ (List.mem_append_right _ h))) (by decide +kernel))) (goodIn_sub (fun _ h => List.mem_append_left _ (List.mem_append_right _ h)) (by decide +kernel))
set_option maxRecDepth 20000 in
theorem gL_law_L_pass : GoodIn wsL_law (va_wsS RL 95 yL_pass wsL_pass) := goodIn_app (goodIn_of _ (by decide +kernel)) ggL_law_L_pass
set_option maxRecDepth 20000 in
theorem ggL_law_X5_pass : GoodIn wsL_law wsX5_pass := goodIn_r _ [118, 119, 88, 92, 93, 5, 94, 95, 96, 97, 98, 99, 627, 628, 629, 630, 631, 632, 633, 634, 635, 636, 637, 638, 639, 640, 641, 642, 643, 644, 645, 646, 647, 648, 649, 650, 651] (by decide +kernel) (by decide +kernel)
set_option maxRecDepth 20000 in
theorem gL_law_X5_pass : GoodIn wsL_law (wsV RL 98 RX5 yX5_pass wsX5_pass) := goodIn_app (goodIn_of _ (by decide +kernel)) ggL_law_X5_pass
set_option maxRecDepth 20000 in
theorem ggL_law_L_open : GoodIn wsL_law wsL_open := goodIn_ca (goodIn_ca (goodIn_r _ [122, 66, 107, 123, 124, 125, 2, 126, 71, 72, 112, 113, 21, 127, 128, 129, 130, 131, 132, 133, 18, 134, 135, 136, 137, 22, 138, 139, 140, 141, 11, 12, 142, 143, 144, 145, 146, 147, 148, 149, 150, 660, 661, 662, 663, 664, 665, 666, 667, 668, 621, 622, 623, 624, 625, 626] (by decide +kernel) (by decide +kernel)) (goodIn_sub (fun _ h => List.mem_append_left _ (List.mem_append_left _ (List.mem_append_right _ h))) (by decide +kernel))) (goodIn_sub (fun _ h => List.mem_append_left _ (List.mem_append_right _ h)) (by decide +kernel))
set_option maxRecDepth 20000 in
theorem gL_law_L_open : GoodIn wsL_law (va_wsS RL 99 yL_open wsL_open) := goodIn_app (goodIn_of _ (by decide +kernel)) ggL_law_L_open
set_option maxRecDepth 20000 in
theorem ggL_law_X5_open : GoodIn wsL_law wsX5_open := goodIn_r _ [154, 155, 89, 90, 5, 91, 92, 93, 94, 95, 96, 97, 98, 99, 156, 157, 158, 159, 46, 47, 48, 49, 50, 51, 52, 627, 628, 629, 630, 631, 632, 633, 634, 635, 636, 637, 638, 639, 640, 641, 642, 643, 644, 645, 646, 647, 648, 649, 650, 651] (by decide +kernel) (by decide +kernel)
set_option maxRecDepth 20000 in
theorem gL_law_X5_open : GoodIn wsL_law (wsV RL 101 RX5 yX5_open wsX5_open) := goodIn_app (goodIn_of _ (by decide +kernel)) ggL_law_X5_open
set_option maxRecDepth 20000 in
theorem ggL_law_L_add : GoodIn wsL_law wsL_add := goodIn_ca (goodIn_ca (goodIn_ca (goodIn_r _ [162, 163, 66, 107, 164, 165, 166, 2, 167, 71, 72, 112, 113, 168, 169, 170, 171, 172, 173, 174, 175, 176, 177, 178, 179, 180, 181, 182, 22, 77, 78, 79, 80, 14, 183, 184, 185, 186, 187, 188, 189, 11, 12, 190, 191, 192, 193, 194, 195, 196, 128, 197, 198, 143, 660, 661, 662, 663, 664, 665, 666, 667, 668, 669, 670, 671, 672, 621, 622, 623, 624, 625, 626, 652, 653, 654, 655] (by decide +kernel) (by decide +kernel)) (goodIn_sub (fun _ h => List.mem_append_left _ (List.mem_append_left _ (List.mem_append_right _ h))) (by decide +kernel))) (goodIn_sub (fun _ h => List.mem_append_left _ (List.mem_append_right _ h)) (by decide +kernel))) (goodIn_sub (fun _ h => List.mem_append_right _ h) (by decide +kernel))
set_option maxRecDepth 20000 in
theorem gL_law_L_add : GoodIn wsL_law (va_wsS RL 102 yL_add wsL_add) := goodIn_app (goodIn_of _ (by decide +kernel)) ggL_law_L_add
set_option maxRecDepth 20000 in
theorem ggL_law_X5_add : GoodIn wsL_law wsX5_add := goodIn_r _ [202, 47, 203, 204, 205, 5, 206, 155, 92, 93, 94, 89, 90, 91, 207, 208, 209, 210, 48, 95, 96, 97, 98, 99, 211, 212, 213, 214, 53, 54, 42, 55, 627, 628, 629, 630, 631, 632, 633, 634, 635, 636, 637, 638, 639, 640, 641, 642, 643, 644, 645, 646, 647, 648, 649, 650, 651] (by decide +kernel) (by decide +kernel)
set_option maxRecDepth 20000 in
theorem gL_law_X5_add : GoodIn wsL_law (wsV RL 105 RX5 yX5_add wsX5_add) := goodIn_app (goodIn_of _ (by decide +kernel)) ggL_law_X5_add
set_option maxRecDepth 20000 in
theorem ggL_law_L_pay : GoodIn wsL_law wsL_pay := goodIn_ca (goodIn_ca (goodIn_r _ [217, 163, 107, 218, 219, 220, 2, 221, 112, 113, 168, 169, 114, 222, 173, 174, 175, 176, 177, 178, 179, 180, 181, 182, 22, 223, 224, 225, 128, 226, 143, 227, 228, 229, 230, 231, 232, 233, 234, 235, 236, 237, 238, 172, 239, 193, 240, 241, 242, 243, 244, 660, 661, 662, 663, 664, 665, 666, 667, 668, 621, 622, 623, 624, 625, 626, 669, 670, 671, 672] (by decide +kernel) (by decide +kernel)) (goodIn_sub (fun _ h => List.mem_append_left _ (List.mem_append_right _ h)) (by decide +kernel))) (goodIn_sub (fun _ h => List.mem_append_right _ h) (by decide +kernel))
set_option maxRecDepth 20000 in
theorem gL_law_L_pay : GoodIn wsL_law (va_wsS RL 106 yL_pay wsL_pay) := goodIn_app (goodIn_of _ (by decide +kernel)) ggL_law_L_pay
set_option maxRecDepth 20000 in
theorem ggL_law_X5_pay : GoodIn wsL_law wsX5_pay := goodIn_r _ [248, 47, 203, 204, 205, 5, 206, 155, 92, 93, 94, 207, 208, 209, 210, 48, 95, 96, 97, 98, 99, 249, 250, 251, 252, 119, 49, 253, 254, 255, 256, 257, 258, 259, 260, 54, 55, 261, 262, 263, 264, 265, 266, 267, 627, 628, 629, 630, 631, 632, 633, 634, 635, 636, 637, 638, 639, 640, 641, 642, 643, 644, 645, 646, 647, 648, 649, 650, 651] (by decide +kernel) (by decide +kernel)
set_option maxRecDepth 20000 in
theorem gL_law_X5_pay : GoodIn wsL_law (wsV RL 108 RX5 yX5_pay wsX5_pay) := goodIn_app (goodIn_of _ (by decide +kernel)) ggL_law_X5_pay
set_option maxRecDepth 20000 in
theorem ggL_law_X4_sales : GoodIn wsL_law wsX4_sales := goodIn_r _ [271, 129, 621, 622, 623, 624, 625, 626] (by decide +kernel) (by decide +kernel)
set_option maxRecDepth 20000 in
theorem gL_law_X4_sales : GoodIn wsL_law (wsV RL 109 RX4 yX4_sales wsX4_sales) := goodIn_app (goodIn_of _ (by decide +kernel)) ggL_law_X4_sales
set_option maxRecDepth 20000 in
theorem ggL_law_X5_sales : GoodIn wsL_law wsX5_sales := goodIn_r _ [275, 99, 155, 627, 628, 629, 630, 631, 632, 633, 634, 635, 636, 637, 638, 639, 640, 641, 642, 643, 644, 645, 646, 647, 648, 649, 650, 651] (by decide +kernel) (by decide +kernel)
set_option maxRecDepth 20000 in
theorem gL_law_X5_sales : GoodIn wsL_law (wsV RL 112 RX5 yX5_sales wsX5_sales) := goodIn_app (goodIn_of _ (by decide +kernel)) ggL_law_X5_sales
set_option maxRecDepth 20000 in
theorem ggL_law_L_paid : GoodIn wsL_law wsL_paid := goodIn_ca (goodIn_r _ [278, 163, 279, 280, 281, 2, 282, 222, 173, 174, 175, 176, 177, 178, 179, 180, 181, 182, 22, 660, 661, 662, 663, 664, 665, 666, 667, 668, 621, 622, 623, 624, 625, 626] (by decide +kernel) (by decide +kernel)) (goodIn_sub (fun _ h => List.mem_append_right _ h) (by decide +kernel))
set_option maxRecDepth 20000 in
theorem gL_law_L_paid : GoodIn wsL_law (va_wsS RL 113 yL_paid wsL_paid) := goodIn_app (goodIn_of _ (by decide +kernel)) ggL_law_L_paid
set_option maxRecDepth 20000 in
theorem ggL_law_X5_paid : GoodIn wsL_law wsX5_paid := goodIn_r _ [286, 49, 203, 204, 205, 5, 206, 155, 92, 93, 94, 95, 96, 97, 98, 99, 627, 628, 629, 630, 631, 632, 633, 634, 635, 636, 637, 638, 639, 640, 641, 642, 643, 644, 645, 646, 647, 648, 649, 650, 651] (by decide +kernel) (by decide +kernel)
set_option maxRecDepth 20000 in
theorem gL_law_X5_paid : GoodIn wsL_law (wsV RL 115 RX5 yX5_paid wsX5_paid) := goodIn_app (goodIn_of _ (by decide +kernel)) ggL_law_X5_paid
set_option maxRecDepth 20000 in
theorem ggL_law_L_kept : GoodIn wsL_law wsL_kept := goodIn_ca (goodIn_r _ [289, 163, 290, 291, 292, 2, 293, 294, 295, 296, 297, 298, 177, 178, 173, 174, 175, 176, 179, 180, 181, 182, 22, 299, 300, 301, 128, 302, 143, 669, 670, 671, 672, 621, 622, 623, 624, 625, 626, 660, 661, 662, 663, 664, 665, 666, 667, 668] (by decide +kernel) (by decide +kernel)) (goodIn_sub (fun _ h => List.mem_append_right _ h) (by decide +kernel))
set_option maxRecDepth 20000 in
theorem gL_law_L_kept : GoodIn wsL_law (va_wsS RL 116 yL_kept wsL_kept) := goodIn_app (goodIn_of _ (by decide +kernel)) ggL_law_L_kept
set_option maxRecDepth 20000 in
theorem ggL_law_X5_kept : GoodIn wsL_law wsX5_kept := goodIn_r _ [306, 55, 307, 308, 309, 5, 310, 47, 203, 204, 205, 206, 155, 92, 93, 94, 95, 96, 97, 98, 99, 207, 208, 209, 210, 48, 627, 628, 629, 630, 631, 632, 633, 634, 635, 636, 637, 638, 639, 640, 641, 642, 643, 644, 645, 646, 647, 648, 649, 650, 651] (by decide +kernel) (by decide +kernel)
set_option maxRecDepth 20000 in
theorem gL_law_X5_kept : GoodIn wsL_law (wsV RL 119 RX5 yX5_kept wsX5_kept) := goodIn_app (goodIn_of _ (by decide +kernel)) ggL_law_X5_kept
set_option maxRecDepth 20000 in
theorem ggL_law_L_keptValue : GoodIn wsL_law wsL_keptValue := goodIn_ca (goodIn_r _ [313, 163, 314, 315, 316, 2, 317, 173, 174, 175, 176, 177, 178, 179, 180, 181, 182, 22, 318, 233, 234, 128, 235, 143, 228, 236, 237, 238, 172, 239, 193, 319, 240, 241, 242, 243, 244, 621, 622, 623, 624, 625, 626, 660, 661, 662, 663, 664, 665, 666, 667, 668, 669, 670, 671, 672] (by decide +kernel) (by decide +kernel)) (goodIn_sub (fun _ h => List.mem_append_right _ h) (by decide +kernel))
set_option maxRecDepth 20000 in
theorem gL_law_L_keptValue : GoodIn wsL_law (va_wsS RL 120 yL_keptValue wsL_keptValue) := goodIn_app (goodIn_of _ (by decide +kernel)) ggL_law_L_keptValue
set_option maxRecDepth 20000 in
theorem ggL_law_X5_keptValue : GoodIn wsL_law wsX5_keptValue := goodIn_r _ [323, 203, 204, 205, 5, 206, 155, 92, 93, 94, 95, 96, 97, 98, 99, 207, 208, 209, 210, 48, 253, 254, 255, 256, 47, 257, 258, 259, 260, 54, 55, 261, 262, 263, 264, 265, 266, 267, 627, 628, 629, 630, 631, 632, 633, 634, 635, 636, 637, 638, 639, 640, 641, 642, 643, 644, 645, 646, 647, 648, 649, 650, 651] (by decide +kernel) (by decide +kernel)
set_option maxRecDepth 20000 in
theorem gL_law_X5_keptValue : GoodIn wsL_law (wsV RL 122 RX5 yX5_keptValue wsX5_keptValue) := goodIn_app (goodIn_of _ (by decide +kernel)) ggL_law_X5_keptValue
set_option maxRecDepth 20000 in
theorem ggL_law_L_lineValue : GoodIn wsL_law wsL_lineValue := goodIn_ca (goodIn_r _ [326, 163, 327, 328, 329, 2, 330, 177, 178, 173, 174, 175, 176, 179, 180, 181, 182, 22, 299, 300, 301, 128, 302, 143, 331, 332, 333, 334, 232, 233, 234, 235, 228, 236, 237, 238, 172, 239, 193, 240, 241, 242, 243, 244, 335, 336, 337, 338, 339, 340, 341, 342, 343, 344, 345, 346, 347, 348, 621, 622, 623, 624, 625, 626, 660, 661, 662, 663, 664, 665, 666, 667, 668, 669, 670, 671, 672] (by decide +kernel) (by decide +kernel)) (goodIn_sub (fun _ h => List.mem_append_right _ h) (by decide +kernel))
set_option maxRecDepth 20000 in
theorem gL_law_L_lineValue : GoodIn wsL_law (va_wsS RL 123 yL_lineValue wsL_lineValue) := goodIn_app (goodIn_of _ (by decide +kernel)) ggL_law_L_lineValue
set_option maxRecDepth 20000 in
theorem ggL_law_X5_lineValue : GoodIn wsL_law wsX5_lineValue := goodIn_r _ [352, 61, 307, 308, 309, 5, 310, 47, 203, 204, 205, 206, 155, 92, 93, 94, 95, 96, 97, 98, 99, 207, 208, 209, 210, 48, 353, 354, 355, 356, 60, 253, 254, 255, 256, 257, 258, 259, 260, 54, 55, 261, 262, 263, 264, 265, 266, 267, 357, 358, 359, 360, 361, 627, 628, 629, 630, 631, 632, 633, 634, 635, 636, 637, 638, 639, 640, 641, 642, 643, 644, 645, 646, 647, 648, 649, 650, 651] (by decide +kernel) (by decide +kernel)
set_option maxRecDepth 20000 in
theorem gL_law_X5_lineValue : GoodIn wsL_law (wsV RL 125 RX5 yX5_lineValue wsX5_lineValue) := goodIn_app (goodIn_of _ (by decide +kernel)) ggL_law_X5_lineValue
set_option maxRecDepth 20000 in
theorem ggL_law_L_giveBack : GoodIn wsL_law wsL_giveBack := goodIn_ca (goodIn_ca (goodIn_ca (goodIn_r _ [364, 163, 66, 107, 365, 366, 367, 2, 368, 71, 72, 112, 113, 369, 370, 295, 296, 297, 298, 177, 178, 173, 174, 175, 176, 179, 180, 181, 182, 22, 299, 300, 301, 128, 302, 143, 183, 184, 185, 371, 372, 373, 374, 375, 376, 377, 168, 294, 378, 379, 380, 381, 114, 382, 383, 384, 385, 386, 387, 388, 389, 20, 390, 391, 34, 35, 37, 392, 393, 394, 395, 396, 397, 398, 399, 400, 401, 231, 402, 403, 404, 405, 406, 232, 233, 234, 235, 228, 236, 237, 238, 172, 239, 193, 240, 241, 242, 243, 244, 407, 408, 409, 16, 410, 411, 412, 413, 414, 415, 416, 417, 26, 418, 419, 420, 421, 422, 28, 423, 424, 425, 426, 27, 427, 428, 429, 430, 431, 432, 433, 434, 30, 435, 436, 437, 438, 439, 440, 441, 442, 443, 444, 445, 660, 661, 662, 663, 664, 665, 666, 667, 668, 621, 622, 623, 624, 625, 626, 669, 670, 671, 672, 656, 657, 658, 659, 652, 653, 654, 655] (by decide +kernel) (by decide +kernel)) (goodIn_sub (fun _ h => List.mem_append_left _ (List.mem_append_left _ (List.mem_append_right _ h))) (by decide +kernel))) (goodIn_sub (fun _ h => List.mem_append_left _ (List.mem_append_right _ h)) (by decide +kernel))) (goodIn_sub (fun _ h => List.mem_append_right _ h) (by decide +kernel))
set_option maxRecDepth 20000 in
theorem gL_law_L_giveBack : GoodIn wsL_law (va_wsS RL 126 yL_giveBack wsL_giveBack) := goodIn_app (goodIn_of _ (by decide +kernel)) ggL_law_L_giveBack
set_option maxRecDepth 20000 in
theorem ggL_law_X5_giveBack : GoodIn wsL_law wsX5_giveBack := goodIn_r _ [449, 450, 451, 452, 453, 5, 454, 55, 307, 308, 309, 310, 47, 203, 204, 205, 206, 155, 92, 93, 94, 207, 208, 209, 210, 48, 455, 456, 457, 458, 119, 51, 459, 460, 461, 462, 46, 463, 464, 465, 466, 467, 57, 56, 58, 59, 95, 96, 97, 98, 99, 468, 469, 470, 471, 53, 50, 45, 52, 472, 473, 474, 475, 49, 54, 253, 254, 255, 256, 257, 258, 259, 260, 261, 262, 263, 264, 265, 266, 267, 476, 477, 478, 479, 480, 481, 482, 483, 42, 44, 43, 484, 485, 486, 487, 488, 489, 490, 491, 627, 628, 629, 630, 631, 632, 633, 634, 635, 636, 637, 638, 639, 640, 641, 642, 643, 644, 645, 646, 647, 648, 649, 650, 651] (by decide +kernel) (by decide +kernel)
set_option maxRecDepth 20000 in
theorem gL_law_X5_giveBack : GoodIn wsL_law (wsV RL 128 RX5 yX5_giveBack wsX5_giveBack) := goodIn_app (goodIn_of _ (by decide +kernel)) ggL_law_X5_giveBack
set_option maxRecDepth 20000 in
theorem ggL_law_L_exchange : GoodIn wsL_law wsL_exchange := goodIn_ca (goodIn_ca (goodIn_ca (goodIn_r _ [494, 163, 66, 107, 495, 496, 497, 2, 498, 71, 72, 112, 113, 369, 499, 21, 127, 128, 500, 170, 171, 172, 382, 222, 295, 296, 297, 298, 177, 178, 173, 174, 175, 176, 179, 180, 181, 182, 22, 299, 300, 301, 302, 143, 77, 78, 79, 80, 14, 183, 184, 185, 371, 372, 373, 374, 375, 376, 377, 168, 294, 378, 379, 380, 381, 114, 383, 384, 385, 386, 387, 388, 389, 20, 390, 391, 34, 35, 37, 134, 135, 136, 137, 129, 392, 393, 394, 395, 396, 397, 398, 399, 400, 401, 231, 402, 403, 404, 405, 406, 232, 233, 234, 235, 228, 236, 237, 238, 239, 193, 240, 241, 242, 243, 244, 407, 408, 409, 16, 410, 411, 412, 413, 414, 415, 416, 417, 26, 418, 419, 420, 421, 422, 28, 423, 424, 425, 426, 27, 427, 428, 429, 430, 431, 432, 433, 434, 30, 435, 436, 437, 438, 439, 440, 441, 442, 138, 139, 140, 141, 11, 12, 142, 144, 145, 146, 186, 187, 188, 189, 190, 191, 192, 194, 195, 196, 197, 198, 223, 224, 225, 226, 227, 229, 230, 147, 148, 149, 150, 660, 661, 662, 663, 664, 665, 666, 667, 668, 669, 670, 671, 672, 621, 622, 623, 624, 625, 626, 656, 657, 658, 659, 652, 653, 654, 655] (by decide +kernel) (by decide +kernel)) (goodIn_sub (fun _ h => List.mem_append_left _ (List.mem_append_left _ (List.mem_append_right _ h))) (by decide +kernel))) (goodIn_sub (fun _ h => List.mem_append_left _ (List.mem_append_right _ h)) (by decide +kernel))) (goodIn_sub (fun _ h => List.mem_append_right _ h) (by decide +kernel))
set_option maxRecDepth 20000 in
theorem gL_law_L_exchange : GoodIn wsL_law (va_wsS RL 129 yL_exchange wsL_exchange) := goodIn_app (goodIn_of _ (by decide +kernel)) ggL_law_L_exchange
set_option maxRecDepth 20000 in
theorem ggL_law_X5_exchange : GoodIn wsL_law wsX5_exchange := goodIn_r _ [504, 155, 46, 51, 52, 451, 452, 453, 5, 454, 55, 307, 308, 309, 310, 47, 203, 204, 205, 206, 92, 93, 94, 207, 208, 209, 210, 48, 455, 456, 457, 458, 119, 89, 90, 91, 459, 460, 461, 462, 463, 464, 465, 466, 467, 57, 56, 58, 59, 95, 96, 97, 98, 99, 468, 469, 470, 471, 53, 50, 45, 472, 473, 474, 475, 49, 54, 253, 254, 255, 256, 257, 258, 259, 260, 261, 262, 263, 264, 265, 266, 267, 476, 477, 478, 479, 480, 481, 482, 483, 42, 44, 43, 484, 485, 486, 487, 156, 157, 158, 159, 211, 212, 213, 214, 249, 250, 251, 252, 627, 628, 629, 630, 631, 632, 633, 634, 635, 636, 637, 638, 639, 640, 641, 642, 643, 644, 645, 646, 647, 648, 649, 650, 651] (by decide +kernel) (by decide +kernel)
set_option maxRecDepth 20000 in
theorem gL_law_X5_exchange : GoodIn wsL_law (wsV RL 132 RX5 yX5_exchange wsX5_exchange) := goodIn_app (goodIn_of _ (by decide +kernel)) ggL_law_X5_exchange
set_option maxRecDepth 20000 in
theorem ggL_law_L_quote : GoodIn wsL_law wsL_quote := goodIn_ca (goodIn_ca (goodIn_ca (goodIn_r _ [507, 163, 66, 107, 508, 509, 510, 2, 511, 71, 72, 112, 113, 295, 296, 297, 298, 177, 178, 173, 174, 175, 176, 179, 180, 181, 182, 22, 299, 300, 301, 128, 302, 143, 183, 184, 185, 371, 372, 373, 374, 375, 376, 377, 168, 294, 378, 379, 380, 381, 114, 382, 398, 399, 400, 401, 231, 402, 403, 404, 405, 406, 232, 233, 234, 235, 228, 236, 237, 238, 172, 239, 193, 240, 241, 242, 243, 244, 443, 444, 445, 621, 622, 623, 624, 625, 626, 660, 661, 662, 663, 664, 665, 666, 667, 668, 669, 670, 671, 672] (by decide +kernel) (by decide +kernel)) (goodIn_sub (fun _ h => List.mem_append_left _ (List.mem_append_left _ (List.mem_append_right _ h))) (by decide +kernel))) (goodIn_sub (fun _ h => List.mem_append_left _ (List.mem_append_right _ h)) (by decide +kernel))) (goodIn_sub (fun _ h => List.mem_append_right _ h) (by decide +kernel))
set_option maxRecDepth 20000 in
theorem gL_law_L_quote : GoodIn wsL_law (va_wsS RL 133 yL_quote wsL_quote) := goodIn_app (goodIn_of _ (by decide +kernel)) ggL_law_L_quote
set_option maxRecDepth 20000 in
theorem ggL_law_X5_quote : GoodIn wsL_law wsX5_quote := goodIn_r _ [515, 451, 452, 453, 5, 454, 55, 307, 308, 309, 310, 47, 203, 204, 205, 206, 155, 92, 93, 94, 207, 208, 209, 210, 48, 455, 456, 457, 458, 119, 51, 95, 96, 97, 98, 99, 472, 473, 474, 475, 49, 50, 54, 253, 254, 255, 256, 257, 258, 259, 260, 261, 262, 263, 264, 265, 266, 267, 488, 489, 490, 491, 627, 628, 629, 630, 631, 632, 633, 634, 635, 636, 637, 638, 639, 640, 641, 642, 643, 644, 645, 646, 647, 648, 649, 650, 651] (by decide +kernel) (by decide +kernel)
set_option maxRecDepth 20000 in
theorem gL_law_X5_quote : GoodIn wsL_law (wsV RL 135 RX5 yX5_quote wsX5_quote) := goodIn_app (goodIn_of _ (by decide +kernel)) ggL_law_X5_quote
set_option maxRecDepth 20000 in
theorem ggL_law_L_released : GoodIn wsL_law wsL_released := goodIn_ca (goodIn_r _ [518, 163, 519, 520, 521, 2, 522, 396, 173, 174, 175, 176, 177, 178, 179, 180, 181, 182, 22, 660, 661, 662, 663, 664, 665, 666, 667, 668, 621, 622, 623, 624, 625, 626] (by decide +kernel) (by decide +kernel)) (goodIn_sub (fun _ h => List.mem_append_right _ h) (by decide +kernel))
set_option maxRecDepth 20000 in
theorem gL_law_L_released : GoodIn wsL_law (va_wsS RL 136 yL_released wsL_released) := goodIn_app (goodIn_of _ (by decide +kernel)) ggL_law_L_released
set_option maxRecDepth 20000 in
theorem ggL_law_X5_released : GoodIn wsL_law wsX5_released := goodIn_r _ [526, 50, 203, 204, 205, 5, 206, 155, 92, 93, 94, 95, 96, 97, 98, 99, 627, 628, 629, 630, 631, 632, 633, 634, 635, 636, 637, 638, 639, 640, 641, 642, 643, 644, 645, 646, 647, 648, 649, 650, 651] (by decide +kernel) (by decide +kernel)
set_option maxRecDepth 20000 in
theorem gL_law_X5_released : GoodIn wsL_law (wsV RL 138 RX5 yX5_released wsX5_released) := goodIn_app (goodIn_of _ (by decide +kernel)) ggL_law_X5_released
set_option maxRecDepth 20000 in
theorem ggL_law_X4_fees : GoodIn wsL_law wsX4_fees := goodIn_r _ [530, 370, 621, 622, 623, 624, 625, 626] (by decide +kernel) (by decide +kernel)
set_option maxRecDepth 20000 in
theorem gL_law_X4_fees : GoodIn wsL_law (wsV RL 139 RX4 yX4_fees wsX4_fees) := goodIn_app (goodIn_of _ (by decide +kernel)) ggL_law_X4_fees
set_option maxRecDepth 20000 in
theorem ggL_law_X5_fees : GoodIn wsL_law wsX5_fees := goodIn_r _ [534, 99, 450, 627, 628, 629, 630, 631, 632, 633, 634, 635, 636, 637, 638, 639, 640, 641, 642, 643, 644, 645, 646, 647, 648, 649, 650, 651] (by decide +kernel) (by decide +kernel)
set_option maxRecDepth 20000 in
theorem gL_law_X5_fees : GoodIn wsL_law (wsV RL 142 RX5 yX5_fees wsX5_fees) := goodIn_app (goodIn_of _ (by decide +kernel)) ggL_law_X5_fees
set_option maxRecDepth 20000 in
theorem ggL_law_L_firstSale : GoodIn wsL_law wsL_firstSale := goodIn_ca (goodIn_r _ [537, 163, 538, 539, 540, 2, 541, 500, 173, 174, 175, 176, 177, 178, 179, 180, 181, 182, 22, 660, 661, 662, 663, 664, 665, 666, 667, 668, 621, 622, 623, 624, 625, 626] (by decide +kernel) (by decide +kernel)) (goodIn_sub (fun _ h => List.mem_append_right _ h) (by decide +kernel))
set_option maxRecDepth 20000 in
theorem gL_law_L_firstSale : GoodIn wsL_law (va_wsS RL 143 yL_firstSale wsL_firstSale) := goodIn_app (goodIn_of _ (by decide +kernel)) ggL_law_L_firstSale
set_option maxRecDepth 20000 in
theorem ggL_law_X5_firstSale : GoodIn wsL_law wsX5_firstSale := goodIn_r _ [545, 51, 203, 204, 205, 5, 206, 155, 92, 93, 94, 95, 96, 97, 98, 99, 627, 628, 629, 630, 631, 632, 633, 634, 635, 636, 637, 638, 639, 640, 641, 642, 643, 644, 645, 646, 647, 648, 649, 650, 651] (by decide +kernel) (by decide +kernel)
set_option maxRecDepth 20000 in
theorem gL_law_X5_firstSale : GoodIn wsL_law (wsV RL 145 RX5 yX5_firstSale wsX5_firstSale) := goodIn_app (goodIn_of _ (by decide +kernel)) ggL_law_X5_firstSale
set_option maxRecDepth 20000 in
theorem ggL_law_L_exchanges : GoodIn wsL_law wsL_exchanges := goodIn_ca (goodIn_r _ [548, 163, 549, 550, 551, 2, 552, 499, 173, 174, 175, 176, 177, 178, 179, 180, 181, 182, 22, 660, 661, 662, 663, 664, 665, 666, 667, 668, 621, 622, 623, 624, 625, 626] (by decide +kernel) (by decide +kernel)) (goodIn_sub (fun _ h => List.mem_append_right _ h) (by decide +kernel))
set_option maxRecDepth 20000 in
theorem gL_law_L_exchanges : GoodIn wsL_law (va_wsS RL 146 yL_exchanges wsL_exchanges) := goodIn_app (goodIn_of _ (by decide +kernel)) ggL_law_L_exchanges
set_option maxRecDepth 20000 in
theorem ggL_law_X5_exchanges : GoodIn wsL_law wsX5_exchanges := goodIn_r _ [556, 52, 203, 204, 205, 5, 206, 155, 92, 93, 94, 95, 96, 97, 98, 99, 627, 628, 629, 630, 631, 632, 633, 634, 635, 636, 637, 638, 639, 640, 641, 642, 643, 644, 645, 646, 647, 648, 649, 650, 651] (by decide +kernel) (by decide +kernel)
set_option maxRecDepth 20000 in
theorem gL_law_X5_exchanges : GoodIn wsL_law (wsV RL 148 RX5 yX5_exchanges wsX5_exchanges) := goodIn_app (goodIn_of _ (by decide +kernel)) ggL_law_X5_exchanges
set_option maxRecDepth 20000 in
theorem ggL_law_L_bestOption : GoodIn wsL_law wsL_bestOption := goodIn_ca (goodIn_r _ [559, 66, 560, 561, 562, 2, 563, 71, 72, 77, 78, 79, 80, 14, 371, 372, 373, 407, 408, 409, 16, 410, 411, 412, 413, 414, 415, 416, 417, 26, 418, 404, 405, 406, 419, 420, 421, 422, 28, 423, 424, 425, 426, 27, 427, 428, 429, 430, 621, 622, 623, 624, 625, 626, 652, 653, 654, 655] (by decide +kernel) (by decide +kernel)) (goodIn_sub (fun _ h => List.mem_append_left _ (List.mem_append_left _ (List.mem_append_right _ h))) (by decide +kernel))
set_option maxRecDepth 20000 in
theorem gL_law_L_bestOption : GoodIn wsL_law (va_wsS RL 149 yL_bestOption wsL_bestOption) := goodIn_app (goodIn_of _ (by decide +kernel)) ggL_law_L_bestOption
set_option maxRecDepth 20000 in
theorem ggL_law_X5_bestOption : GoodIn wsL_law wsX5_bestOption := goodIn_r _ [567, 568, 569, 570, 5, 571, 89, 90, 91, 92, 93, 94, 95, 96, 97, 98, 99, 476, 477, 478, 479, 480, 481, 482, 483, 42, 44, 43, 484, 485, 486, 487, 627, 628, 629, 630, 631, 632, 633, 634, 635, 636, 637, 638, 639, 640, 641, 642, 643, 644, 645, 646, 647, 648, 649, 650, 651] (by decide +kernel) (by decide +kernel)
set_option maxRecDepth 20000 in
theorem gL_law_X5_bestOption : GoodIn wsL_law (wsV RL 151 RX5 yX5_bestOption wsX5_bestOption) := goodIn_app (goodIn_of _ (by decide +kernel)) ggL_law_X5_bestOption
set_option maxRecDepth 20000 in
theorem ggL_law_L_bestWorth : GoodIn wsL_law wsL_bestWorth := goodIn_ca (goodIn_r _ [574, 66, 575, 576, 577, 2, 578, 71, 72, 77, 78, 79, 80, 14, 371, 372, 373, 407, 408, 409, 16, 410, 411, 412, 413, 414, 415, 416, 417, 26, 418, 404, 405, 406, 419, 420, 421, 422, 28, 423, 424, 425, 426, 27, 427, 428, 429, 430, 579, 621, 622, 623, 624, 625, 626, 652, 653, 654, 655] (by decide +kernel) (by decide +kernel)) (goodIn_sub (fun _ h => List.mem_append_left _ (List.mem_append_left _ (List.mem_append_right _ h))) (by decide +kernel))
set_option maxRecDepth 20000 in
theorem gL_law_L_bestWorth : GoodIn wsL_law (va_wsS RL 152 yL_bestWorth wsL_bestWorth) := goodIn_app (goodIn_of _ (by decide +kernel)) ggL_law_L_bestWorth
set_option maxRecDepth 20000 in
theorem ggL_law_X5_bestWorth : GoodIn wsL_law wsX5_bestWorth := goodIn_r _ [583, 568, 569, 570, 5, 571, 89, 90, 91, 92, 93, 94, 95, 96, 97, 98, 99, 476, 477, 478, 479, 480, 481, 482, 483, 42, 44, 43, 484, 485, 486, 487, 627, 628, 629, 630, 631, 632, 633, 634, 635, 636, 637, 638, 639, 640, 641, 642, 643, 644, 645, 646, 647, 648, 649, 650, 651] (by decide +kernel) (by decide +kernel)
set_option maxRecDepth 20000 in
theorem gL_law_X5_bestWorth : GoodIn wsL_law (wsV RL 154 RX5 yX5_bestWorth wsX5_bestWorth) := goodIn_app (goodIn_of _ (by decide +kernel)) ggL_law_X5_bestWorth
set_option maxRecDepth 20000 in
theorem ggL_law_L_stock : GoodIn wsL_law wsL_stock := goodIn_ca (goodIn_r _ [586, 66, 587, 588, 589, 2, 590, 71, 72, 77, 78, 79, 80, 14, 591, 592, 593, 16, 594, 30, 621, 622, 623, 624, 625, 626, 652, 653, 654, 655] (by decide +kernel) (by decide +kernel)) (goodIn_sub (fun _ h => List.mem_append_left _ (List.mem_append_left _ (List.mem_append_right _ h))) (by decide +kernel))
set_option maxRecDepth 20000 in
theorem gL_law_L_stock : GoodIn wsL_law (va_wsS RL 155 yL_stock wsL_stock) := goodIn_app (goodIn_of _ (by decide +kernel)) ggL_law_L_stock
set_option maxRecDepth 20000 in
theorem ggL_law_X5_stock : GoodIn wsL_law wsX5_stock := goodIn_r _ [598, 45, 89, 90, 5, 91, 92, 93, 94, 95, 96, 97, 98, 99, 627, 628, 629, 630, 631, 632, 633, 634, 635, 636, 637, 638, 639, 640, 641, 642, 643, 644, 645, 646, 647, 648, 649, 650, 651] (by decide +kernel) (by decide +kernel)
set_option maxRecDepth 20000 in
theorem gL_law_X5_stock : GoodIn wsL_law (wsV RL 157 RX5 yX5_stock wsX5_stock) := goodIn_app (goodIn_of _ (by decide +kernel)) ggL_law_X5_stock
set_option maxRecDepth 20000 in
theorem ggL_law_L_test : GoodIn wsL_law wsL_test := goodIn_ca (goodIn_ca (goodIn_r _ [601, 66, 107, 602, 603, 604, 2, 605, 71, 72, 112, 113, 77, 78, 79, 80, 14, 591, 592, 593, 16, 594, 30, 407, 408, 409, 410, 411, 412, 413, 414, 415, 416, 417, 26, 418, 404, 405, 406, 419, 420, 421, 422, 28, 423, 424, 425, 426, 27, 427, 428, 429, 430, 431, 432, 433, 434, 621, 622, 623, 624, 625, 626, 652, 653, 654, 655] (by decide +kernel) (by decide +kernel)) (goodIn_sub (fun _ h => List.mem_append_left _ (List.mem_append_left _ (List.mem_append_right _ h))) (by decide +kernel))) (goodIn_sub (fun _ h => List.mem_append_left _ (List.mem_append_right _ h)) (by decide +kernel))
set_option maxRecDepth 20000 in
theorem gL_law_L_test : GoodIn wsL_law (va_wsS RL 158 yL_test wsL_test) := goodIn_app (goodIn_of _ (by decide +kernel)) ggL_law_L_test
set_option maxRecDepth 20000 in
theorem ggL_law_X5_test : GoodIn wsL_law wsX5_test := goodIn_r _ [609, 45, 89, 90, 5, 91, 92, 93, 94, 95, 96, 97, 98, 99, 476, 477, 478, 479, 480, 481, 482, 483, 42, 44, 43, 484, 485, 486, 487, 627, 628, 629, 630, 631, 632, 633, 634, 635, 636, 637, 638, 639, 640, 641, 642, 643, 644, 645, 646, 647, 648, 649, 650, 651] (by decide +kernel) (by decide +kernel)
set_option maxRecDepth 20000 in
theorem gL_law_X5_test : GoodIn wsL_law (wsV RL 161 RX5 yX5_test wsX5_test) := goodIn_app (goodIn_of _ (by decide +kernel)) ggL_law_X5_test
set_option maxRecDepth 20000 in
theorem ggL_law_L_score : GoodIn wsL_law wsL_score := goodIn_ca (goodIn_r _ [612, 66, 613, 614, 615, 2, 616, 71, 72, 114, 130, 131, 132, 133, 18, 387, 388, 389, 20, 390, 391, 34, 35, 37, 621, 622, 623, 624, 625, 626, 656, 657, 658, 659] (by decide +kernel) (by decide +kernel)) (goodIn_sub (fun _ h => List.mem_append_left _ (List.mem_append_left _ (List.mem_append_right _ h))) (by decide +kernel))
set_option maxRecDepth 20000 in
theorem gL_law_L_score : GoodIn wsL_law (va_wsS RL 162 yL_score wsL_score) := goodIn_app (goodIn_of _ (by decide +kernel)) ggL_law_L_score
set_option maxRecDepth 20000 in
theorem ggL_law_X5_score : GoodIn wsL_law wsX5_score := goodIn_r _ [620, 89, 90, 5, 91, 92, 93, 94, 95, 96, 97, 98, 99, 463, 464, 465, 466, 467, 119, 57, 56, 58, 59, 627, 628, 629, 630, 631, 632, 633, 634, 635, 636, 637, 638, 639, 640, 641, 642, 643, 644, 645, 646, 647, 648, 649, 650, 651] (by decide +kernel) (by decide +kernel)
set_option maxRecDepth 20000 in
theorem gL_law_X5_score : GoodIn wsL_law (wsV RL 164 RX5 yX5_score wsX5_score) := goodIn_app (goodIn_of _ (by decide +kernel)) ggL_law_X5_score
theorem dL_law_0 : decode cL_law 0 = .ok (.new 8, 3) := by decide +kernel
theorem dL_law_3 : decode cL_law 3 = .ok (.dup, 1) := by decide +kernel
theorem dL_law_4 : decode cL_law 4 = .ok (.invokespecial 81, 3) := by decide +kernel
theorem dL_law_7 : decode cL_law 7 = .ok (.astore_n 1, 1) := by decide +kernel
theorem dL_law_8 : decode cL_law 8 = .ok (.new 82, 3) := by decide +kernel
theorem dL_law_11 : decode cL_law 11 = .ok (.dup, 1) := by decide +kernel
theorem dL_law_12 : decode cL_law 12 = .ok (.invokespecial 84, 3) := by decide +kernel
theorem dL_law_15 : decode cL_law 15 = .ok (.astore_n 2, 1) := by decide +kernel
theorem dL_law_16 : decode cL_law 16 = .ok (.iconst 1, 1) := by decide +kernel
theorem dL_law_17 : decode cL_law 17 = .ok (.newarray .long, 2) := by decide +kernel
theorem dL_law_19 : decode cL_law 19 = .ok (.astore_n 3, 1) := by decide +kernel
theorem dL_law_20 : decode cL_law 20 = .ok (.iconst 0, 1) := by decide +kernel
theorem dL_law_21 : decode cL_law 21 = .ok (.istore 4, 2) := by decide +kernel
theorem dL_law_23 : decode cL_law 23 = .ok (.iload 4, 2) := by decide +kernel
theorem dL_law_25 : decode cL_law 25 = .ok (.aload_n 0, 1) := by decide +kernel
theorem dL_law_26 : decode cL_law 26 = .ok (.arraylength, 1) := by decide +kernel
theorem dL_law_27 : decode cL_law 27 = .ok (.bipush 6, 2) := by decide +kernel
theorem dL_law_29 : decode cL_law 29 = .ok (.isub, 1) := by decide +kernel
theorem dL_law_30 : decode cL_law 30 = .ok (.if_icmp .gt 1534, 3) := by decide +kernel
theorem dL_law_33 : decode cL_law 33 = .ok (.aload_n 0, 1) := by decide +kernel
theorem dL_law_34 : decode cL_law 34 = .ok (.iload 4, 2) := by decide +kernel
theorem dL_law_36 : decode cL_law 36 = .ok (.iaload, 1) := by decide +kernel
theorem dL_law_37 : decode cL_law 37 = .ok (.bipush 31, 2) := by decide +kernel
theorem dL_law_39 : decode cL_law 39 = .ok (.iand, 1) := by decide +kernel
theorem dL_law_40 : decode cL_law 40 = .ok (.tableswitch 1518 0 21 #[104, 196, 252, 308, 388, 444, 457, 513, 581, 637, 705, 797, 901, 993, 1049, 1062, 1118, 1174, 1242, 1310, 1378, 1462], 104) := by decide +kernel
theorem dL_law_144 : decode cL_law 144 = .ok (.aload_n 1, 1) := by decide +kernel
theorem dL_law_145 : decode cL_law 145 = .ok (.aload_n 0, 1) := by decide +kernel
theorem dL_law_146 : decode cL_law 146 = .ok (.iload 4, 2) := by decide +kernel
theorem dL_law_148 : decode cL_law 148 = .ok (.iconst 1, 1) := by decide +kernel
theorem dL_law_149 : decode cL_law 149 = .ok (.iadd, 1) := by decide +kernel
theorem dL_law_150 : decode cL_law 150 = .ok (.iaload, 1) := by decide +kernel
theorem dL_law_151 : decode cL_law 151 = .ok (.aload_n 0, 1) := by decide +kernel
theorem dL_law_152 : decode cL_law 152 = .ok (.iload 4, 2) := by decide +kernel
theorem dL_law_154 : decode cL_law 154 = .ok (.iconst 2, 1) := by decide +kernel
theorem dL_law_155 : decode cL_law 155 = .ok (.iadd, 1) := by decide +kernel
theorem dL_law_156 : decode cL_law 156 = .ok (.iaload, 1) := by decide +kernel
theorem dL_law_157 : decode cL_law 157 = .ok (.aload_n 0, 1) := by decide +kernel
theorem dL_law_158 : decode cL_law 158 = .ok (.iload 4, 2) := by decide +kernel
theorem dL_law_160 : decode cL_law 160 = .ok (.iconst 3, 1) := by decide +kernel
theorem dL_law_161 : decode cL_law 161 = .ok (.iadd, 1) := by decide +kernel
theorem dL_law_162 : decode cL_law 162 = .ok (.iaload, 1) := by decide +kernel
theorem dL_law_163 : decode cL_law 163 = .ok (.aload_n 0, 1) := by decide +kernel
theorem dL_law_164 : decode cL_law 164 = .ok (.iload 4, 2) := by decide +kernel
theorem dL_law_166 : decode cL_law 166 = .ok (.iconst 4, 1) := by decide +kernel
theorem dL_law_167 : decode cL_law 167 = .ok (.iadd, 1) := by decide +kernel
theorem dL_law_168 : decode cL_law 168 = .ok (.iaload, 1) := by decide +kernel
theorem dL_law_169 : decode cL_law 169 = .ok (.aload_n 3, 1) := by decide +kernel
theorem dL_law_170 : decode cL_law 170 = .ok (.invokestatic 85, 3) := by decide +kernel
theorem dL_law_173 : decode cL_law 173 = .ok (.istore 5, 2) := by decide +kernel
theorem dL_law_175 : decode cL_law 175 = .ok (.aload_n 2, 1) := by decide +kernel
theorem dL_law_176 : decode cL_law 176 = .ok (.aload_n 0, 1) := by decide +kernel
theorem dL_law_177 : decode cL_law 177 = .ok (.iload 4, 2) := by decide +kernel
theorem dL_law_179 : decode cL_law 179 = .ok (.iconst 1, 1) := by decide +kernel
theorem dL_law_180 : decode cL_law 180 = .ok (.iadd, 1) := by decide +kernel
theorem dL_law_181 : decode cL_law 181 = .ok (.iaload, 1) := by decide +kernel
theorem dL_law_182 : decode cL_law 182 = .ok (.aload_n 0, 1) := by decide +kernel
theorem dL_law_183 : decode cL_law 183 = .ok (.iload 4, 2) := by decide +kernel
theorem dL_law_185 : decode cL_law 185 = .ok (.iconst 2, 1) := by decide +kernel
theorem dL_law_186 : decode cL_law 186 = .ok (.iadd, 1) := by decide +kernel
theorem dL_law_187 : decode cL_law 187 = .ok (.iaload, 1) := by decide +kernel
theorem dL_law_188 : decode cL_law 188 = .ok (.aload_n 0, 1) := by decide +kernel
theorem dL_law_189 : decode cL_law 189 = .ok (.iload 4, 2) := by decide +kernel
theorem dL_law_191 : decode cL_law 191 = .ok (.iconst 3, 1) := by decide +kernel
theorem dL_law_192 : decode cL_law 192 = .ok (.iadd, 1) := by decide +kernel
theorem dL_law_193 : decode cL_law 193 = .ok (.iaload, 1) := by decide +kernel
theorem dL_law_194 : decode cL_law 194 = .ok (.aload_n 0, 1) := by decide +kernel
theorem dL_law_195 : decode cL_law 195 = .ok (.iload 4, 2) := by decide +kernel
theorem dL_law_197 : decode cL_law 197 = .ok (.iconst 4, 1) := by decide +kernel
theorem dL_law_198 : decode cL_law 198 = .ok (.iadd, 1) := by decide +kernel
theorem dL_law_199 : decode cL_law 199 = .ok (.iaload, 1) := by decide +kernel
theorem dL_law_200 : decode cL_law 200 = .ok (.invokevirtual 90, 3) := by decide +kernel
theorem dL_law_203 : decode cL_law 203 = .ok (.istore 6, 2) := by decide +kernel
theorem dL_law_205 : decode cL_law 205 = .ok (.aload_n 2, 1) := by decide +kernel
theorem dL_law_206 : decode cL_law 206 = .ok (.invokevirtual 91, 3) := by decide +kernel
theorem dL_law_209 : decode cL_law 209 = .ok (.iload 5, 2) := by decide +kernel
theorem dL_law_211 : decode cL_law 211 = .ok (.if_icmp .eq 5, 3) := by decide +kernel
theorem dL_law_214 : decode cL_law 214 = .ok (.iconst 0, 1) := by decide +kernel
theorem dL_law_215 : decode cL_law 215 = .ok (.ireturn, 1) := by decide +kernel
theorem dL_law_216 : decode cL_law 216 = .ok (.iload 5, 2) := by decide +kernel
theorem dL_law_218 : decode cL_law 218 = .ok (.ifCond .ne 15, 3) := by decide +kernel
theorem dL_law_221 : decode cL_law 221 = .ok (.aload_n 3, 1) := by decide +kernel
theorem dL_law_222 : decode cL_law 222 = .ok (.iconst 0, 1) := by decide +kernel
theorem dL_law_223 : decode cL_law 223 = .ok (.laload, 1) := by decide +kernel
theorem dL_law_224 : decode cL_law 224 = .ok (.iload 6, 2) := by decide +kernel
theorem dL_law_226 : decode cL_law 226 = .ok (.i2l, 1) := by decide +kernel
theorem dL_law_227 : decode cL_law 227 = .ok (.lcmp, 1) := by decide +kernel
theorem dL_law_228 : decode cL_law 228 = .ok (.ifCond .eq 5, 3) := by decide +kernel
theorem dL_law_231 : decode cL_law 231 = .ok (.iconst 0, 1) := by decide +kernel
theorem dL_law_232 : decode cL_law 232 = .ok (.ireturn, 1) := by decide +kernel
theorem dL_law_233 : decode cL_law 233 = .ok (.goto 1325, 3) := by decide +kernel
theorem dL_law_236 : decode cL_law 236 = .ok (.aload_n 1, 1) := by decide +kernel
theorem dL_law_237 : decode cL_law 237 = .ok (.aload_n 0, 1) := by decide +kernel
theorem dL_law_238 : decode cL_law 238 = .ok (.iload 4, 2) := by decide +kernel
theorem dL_law_240 : decode cL_law 240 = .ok (.iconst 1, 1) := by decide +kernel
theorem dL_law_241 : decode cL_law 241 = .ok (.iadd, 1) := by decide +kernel
theorem dL_law_242 : decode cL_law 242 = .ok (.iaload, 1) := by decide +kernel
theorem dL_law_243 : decode cL_law 243 = .ok (.aload_n 3, 1) := by decide +kernel
theorem dL_law_244 : decode cL_law 244 = .ok (.invokestatic 95, 3) := by decide +kernel
theorem dL_law_247 : decode cL_law 247 = .ok (.istore 5, 2) := by decide +kernel
theorem dL_law_249 : decode cL_law 249 = .ok (.aload_n 2, 1) := by decide +kernel
theorem dL_law_250 : decode cL_law 250 = .ok (.aload_n 0, 1) := by decide +kernel
theorem dL_law_251 : decode cL_law 251 = .ok (.iload 4, 2) := by decide +kernel
theorem dL_law_253 : decode cL_law 253 = .ok (.iconst 1, 1) := by decide +kernel
theorem dL_law_254 : decode cL_law 254 = .ok (.iadd, 1) := by decide +kernel
theorem dL_law_255 : decode cL_law 255 = .ok (.iaload, 1) := by decide +kernel
theorem dL_law_256 : decode cL_law 256 = .ok (.invokevirtual 98, 3) := by decide +kernel
theorem dL_law_259 : decode cL_law 259 = .ok (.istore 6, 2) := by decide +kernel
theorem dL_law_261 : decode cL_law 261 = .ok (.aload_n 2, 1) := by decide +kernel
theorem dL_law_262 : decode cL_law 262 = .ok (.invokevirtual 91, 3) := by decide +kernel
theorem dL_law_265 : decode cL_law 265 = .ok (.iload 5, 2) := by decide +kernel
theorem dL_law_267 : decode cL_law 267 = .ok (.if_icmp .eq 5, 3) := by decide +kernel
theorem dL_law_270 : decode cL_law 270 = .ok (.iconst 0, 1) := by decide +kernel
theorem dL_law_271 : decode cL_law 271 = .ok (.ireturn, 1) := by decide +kernel
theorem dL_law_272 : decode cL_law 272 = .ok (.iload 5, 2) := by decide +kernel
theorem dL_law_274 : decode cL_law 274 = .ok (.ifCond .ne 15, 3) := by decide +kernel
theorem dL_law_277 : decode cL_law 277 = .ok (.aload_n 3, 1) := by decide +kernel
theorem dL_law_278 : decode cL_law 278 = .ok (.iconst 0, 1) := by decide +kernel
theorem dL_law_279 : decode cL_law 279 = .ok (.laload, 1) := by decide +kernel
theorem dL_law_280 : decode cL_law 280 = .ok (.iload 6, 2) := by decide +kernel
theorem dL_law_282 : decode cL_law 282 = .ok (.i2l, 1) := by decide +kernel
theorem dL_law_283 : decode cL_law 283 = .ok (.lcmp, 1) := by decide +kernel
theorem dL_law_284 : decode cL_law 284 = .ok (.ifCond .eq 5, 3) := by decide +kernel
theorem dL_law_287 : decode cL_law 287 = .ok (.iconst 0, 1) := by decide +kernel
theorem dL_law_288 : decode cL_law 288 = .ok (.ireturn, 1) := by decide +kernel
theorem dL_law_289 : decode cL_law 289 = .ok (.goto 1269, 3) := by decide +kernel
theorem dL_law_292 : decode cL_law 292 = .ok (.aload_n 1, 1) := by decide +kernel
theorem dL_law_293 : decode cL_law 293 = .ok (.aload_n 0, 1) := by decide +kernel
theorem dL_law_294 : decode cL_law 294 = .ok (.iload 4, 2) := by decide +kernel
theorem dL_law_296 : decode cL_law 296 = .ok (.iconst 1, 1) := by decide +kernel
theorem dL_law_297 : decode cL_law 297 = .ok (.iadd, 1) := by decide +kernel
theorem dL_law_298 : decode cL_law 298 = .ok (.iaload, 1) := by decide +kernel
theorem dL_law_299 : decode cL_law 299 = .ok (.aload_n 3, 1) := by decide +kernel
theorem dL_law_300 : decode cL_law 300 = .ok (.invokestatic 99, 3) := by decide +kernel
theorem dL_law_303 : decode cL_law 303 = .ok (.istore 5, 2) := by decide +kernel
theorem dL_law_305 : decode cL_law 305 = .ok (.aload_n 2, 1) := by decide +kernel
theorem dL_law_306 : decode cL_law 306 = .ok (.aload_n 0, 1) := by decide +kernel
theorem dL_law_307 : decode cL_law 307 = .ok (.iload 4, 2) := by decide +kernel
theorem dL_law_309 : decode cL_law 309 = .ok (.iconst 1, 1) := by decide +kernel
theorem dL_law_310 : decode cL_law 310 = .ok (.iadd, 1) := by decide +kernel
theorem dL_law_311 : decode cL_law 311 = .ok (.iaload, 1) := by decide +kernel
theorem dL_law_312 : decode cL_law 312 = .ok (.invokevirtual 101, 3) := by decide +kernel
theorem dL_law_315 : decode cL_law 315 = .ok (.istore 6, 2) := by decide +kernel
theorem dL_law_317 : decode cL_law 317 = .ok (.aload_n 2, 1) := by decide +kernel
theorem dL_law_318 : decode cL_law 318 = .ok (.invokevirtual 91, 3) := by decide +kernel
theorem dL_law_321 : decode cL_law 321 = .ok (.iload 5, 2) := by decide +kernel
theorem dL_law_323 : decode cL_law 323 = .ok (.if_icmp .eq 5, 3) := by decide +kernel
theorem dL_law_326 : decode cL_law 326 = .ok (.iconst 0, 1) := by decide +kernel
theorem dL_law_327 : decode cL_law 327 = .ok (.ireturn, 1) := by decide +kernel
theorem dL_law_328 : decode cL_law 328 = .ok (.iload 5, 2) := by decide +kernel
theorem dL_law_330 : decode cL_law 330 = .ok (.ifCond .ne 15, 3) := by decide +kernel
theorem dL_law_333 : decode cL_law 333 = .ok (.aload_n 3, 1) := by decide +kernel
theorem dL_law_334 : decode cL_law 334 = .ok (.iconst 0, 1) := by decide +kernel
theorem dL_law_335 : decode cL_law 335 = .ok (.laload, 1) := by decide +kernel
theorem dL_law_336 : decode cL_law 336 = .ok (.iload 6, 2) := by decide +kernel
theorem dL_law_338 : decode cL_law 338 = .ok (.i2l, 1) := by decide +kernel
theorem dL_law_339 : decode cL_law 339 = .ok (.lcmp, 1) := by decide +kernel
theorem dL_law_340 : decode cL_law 340 = .ok (.ifCond .eq 5, 3) := by decide +kernel
theorem dL_law_343 : decode cL_law 343 = .ok (.iconst 0, 1) := by decide +kernel
theorem dL_law_344 : decode cL_law 344 = .ok (.ireturn, 1) := by decide +kernel
theorem dL_law_345 : decode cL_law 345 = .ok (.goto 1213, 3) := by decide +kernel
theorem dL_law_348 : decode cL_law 348 = .ok (.aload_n 1, 1) := by decide +kernel
theorem dL_law_349 : decode cL_law 349 = .ok (.aload_n 0, 1) := by decide +kernel
theorem dL_law_350 : decode cL_law 350 = .ok (.iload 4, 2) := by decide +kernel
theorem dL_law_352 : decode cL_law 352 = .ok (.iconst 1, 1) := by decide +kernel
theorem dL_law_353 : decode cL_law 353 = .ok (.iadd, 1) := by decide +kernel
theorem dL_law_354 : decode cL_law 354 = .ok (.iaload, 1) := by decide +kernel
theorem dL_law_355 : decode cL_law 355 = .ok (.aload_n 0, 1) := by decide +kernel
theorem dL_law_356 : decode cL_law 356 = .ok (.iload 4, 2) := by decide +kernel
theorem dL_law_358 : decode cL_law 358 = .ok (.iconst 2, 1) := by decide +kernel
theorem dL_law_359 : decode cL_law 359 = .ok (.iadd, 1) := by decide +kernel
theorem dL_law_360 : decode cL_law 360 = .ok (.iaload, 1) := by decide +kernel
theorem dL_law_361 : decode cL_law 361 = .ok (.aload_n 0, 1) := by decide +kernel
theorem dL_law_362 : decode cL_law 362 = .ok (.iload 4, 2) := by decide +kernel
theorem dL_law_364 : decode cL_law 364 = .ok (.iconst 3, 1) := by decide +kernel
theorem dL_law_365 : decode cL_law 365 = .ok (.iadd, 1) := by decide +kernel
theorem dL_law_366 : decode cL_law 366 = .ok (.iaload, 1) := by decide +kernel
theorem dL_law_367 : decode cL_law 367 = .ok (.aload_n 3, 1) := by decide +kernel
theorem dL_law_368 : decode cL_law 368 = .ok (.invokestatic 102, 3) := by decide +kernel
theorem dL_law_371 : decode cL_law 371 = .ok (.istore 5, 2) := by decide +kernel
theorem dL_law_373 : decode cL_law 373 = .ok (.aload_n 2, 1) := by decide +kernel
theorem dL_law_374 : decode cL_law 374 = .ok (.aload_n 0, 1) := by decide +kernel
theorem dL_law_375 : decode cL_law 375 = .ok (.iload 4, 2) := by decide +kernel
theorem dL_law_377 : decode cL_law 377 = .ok (.iconst 1, 1) := by decide +kernel
theorem dL_law_378 : decode cL_law 378 = .ok (.iadd, 1) := by decide +kernel
theorem dL_law_379 : decode cL_law 379 = .ok (.iaload, 1) := by decide +kernel
theorem dL_law_380 : decode cL_law 380 = .ok (.aload_n 0, 1) := by decide +kernel
theorem dL_law_381 : decode cL_law 381 = .ok (.iload 4, 2) := by decide +kernel
theorem dL_law_383 : decode cL_law 383 = .ok (.iconst 2, 1) := by decide +kernel
theorem dL_law_384 : decode cL_law 384 = .ok (.iadd, 1) := by decide +kernel
theorem dL_law_385 : decode cL_law 385 = .ok (.iaload, 1) := by decide +kernel
