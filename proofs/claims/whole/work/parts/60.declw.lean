theorem dL_setProduct_0 : decode cL_setProduct 0 = .ok (.aload 5, 2) := by decide +kernel
theorem dL_setProduct_2 : decode cL_setProduct 2 = .ok (.iconst 0, 1) := by decide +kernel
theorem dL_setProduct_3 : decode cL_setProduct 3 = .ok (.aload_n 0, 1) := by decide +kernel
theorem dL_setProduct_4 : decode cL_setProduct 4 = .ok (.iload_n 1, 1) := by decide +kernel
theorem dL_setProduct_5 : decode cL_setProduct 5 = .ok (.iload_n 2, 1) := by decide +kernel
theorem dL_setProduct_6 : decode cL_setProduct 6 = .ok (.iload_n 3, 1) := by decide +kernel
theorem dL_setProduct_7 : decode cL_setProduct 7 = .ok (.iload 4, 2) := by decide +kernel
theorem dL_setProduct_9 : decode cL_setProduct 9 = .ok (.invokevirtual 7, 3) := by decide +kernel
theorem dL_setProduct_12 : decode cL_setProduct 12 = .ok (.i2l, 1) := by decide +kernel
theorem dL_setProduct_13 : decode cL_setProduct 13 = .ok (.lastore, 1) := by decide +kernel
theorem dL_setProduct_14 : decode cL_setProduct 14 = .ok (.goto 7, 3) := by decide +kernel
theorem dL_setProduct_17 : decode cL_setProduct 17 = .ok (.astore 6, 2) := by decide +kernel
theorem dL_setProduct_19 : decode cL_setProduct 19 = .ok (.iconst 1, 1) := by decide +kernel
theorem dL_setProduct_20 : decode cL_setProduct 20 = .ok (.ireturn, 1) := by decide +kernel
theorem dL_setProduct_21 : decode cL_setProduct 21 = .ok (.iconst 0, 1) := by decide +kernel
theorem dL_setProduct_22 : decode cL_setProduct 22 = .ok (.ireturn, 1) := by decide +kernel
set_option maxRecDepth 20000 in
theorem ggL_pass_X4_pass : GoodIn wsL_pass wsX4_pass := goodIn_ca (goodIn_ca (goodIn_r _ [7, 8, 9, 10, 11, 12, 13, 14, 15, 16, 17, 18, 19] (by decide +kernel) (by decide +kernel)) (goodIn_sub (fun _ h => List.mem_cons_of_mem _ (List.mem_append_left _ (List.mem_append_right _ h))) (by decide +kernel))) (goodIn_sub (fun _ h => List.mem_cons_of_mem _ (List.mem_append_right _ h)) (by decide +kernel))
set_option maxRecDepth 20000 in
theorem gL_pass_X4_pass : GoodIn wsL_pass (wsV RL 15 RX4 yX4_pass wsX4_pass) := goodIn_app (goodIn_of _ (by decide +kernel)) ggL_pass_X4_pass
theorem dL_pass_0 : decode cL_pass 0 = .ok (.aload_n 2, 1) := by decide +kernel
theorem dL_pass_1 : decode cL_pass 1 = .ok (.iconst 0, 1) := by decide +kernel
theorem dL_pass_2 : decode cL_pass 2 = .ok (.aload_n 0, 1) := by decide +kernel
theorem dL_pass_3 : decode cL_pass 3 = .ok (.iload_n 1, 1) := by decide +kernel
theorem dL_pass_4 : decode cL_pass 4 = .ok (.invokevirtual 15, 3) := by decide +kernel
theorem dL_pass_7 : decode cL_pass 7 = .ok (.i2l, 1) := by decide +kernel
theorem dL_pass_8 : decode cL_pass 8 = .ok (.lastore, 1) := by decide +kernel
theorem dL_pass_9 : decode cL_pass 9 = .ok (.goto 9, 3) := by decide +kernel
theorem dL_pass_12 : decode cL_pass 12 = .ok (.astore_n 3, 1) := by decide +kernel
theorem dL_pass_13 : decode cL_pass 13 = .ok (.iconst 1, 1) := by decide +kernel
theorem dL_pass_14 : decode cL_pass 14 = .ok (.ireturn, 1) := by decide +kernel
theorem dL_pass_15 : decode cL_pass 15 = .ok (.astore_n 3, 1) := by decide +kernel
theorem dL_pass_16 : decode cL_pass 16 = .ok (.iconst 2, 1) := by decide +kernel
theorem dL_pass_17 : decode cL_pass 17 = .ok (.ireturn, 1) := by decide +kernel
theorem dL_pass_18 : decode cL_pass 18 = .ok (.iconst 0, 1) := by decide +kernel
theorem dL_pass_19 : decode cL_pass 19 = .ok (.ireturn, 1) := by decide +kernel
set_option maxRecDepth 20000 in
theorem ggL_open_X4_open : GoodIn wsL_open wsX4_open := goodIn_ca (goodIn_ca (goodIn_r _ [7, 8, 9, 10, 11, 12, 13, 14, 15, 16, 17, 18, 6, 19, 20, 21, 22, 23, 24, 25, 26, 27, 28, 29, 30, 31, 32, 33, 34, 35, 36, 37, 38, 39, 40, 41, 42, 43, 44, 45, 46, 47, 48, 49, 50, 51, 52, 53, 54, 55] (by decide +kernel) (by decide +kernel)) (goodIn_sub (fun _ h => List.mem_cons_of_mem _ (List.mem_append_left _ (List.mem_append_right _ h))) (by decide +kernel))) (goodIn_sub (fun _ h => List.mem_cons_of_mem _ (List.mem_append_right _ h)) (by decide +kernel))
set_option maxRecDepth 20000 in
theorem gL_open_X4_open : GoodIn wsL_open (wsV RL 21 RX4 yX4_open wsX4_open) := goodIn_app (goodIn_of _ (by decide +kernel)) ggL_open_X4_open
theorem dL_open_0 : decode cL_open 0 = .ok (.aload_n 2, 1) := by decide +kernel
theorem dL_open_1 : decode cL_open 1 = .ok (.iconst 0, 1) := by decide +kernel
theorem dL_open_2 : decode cL_open 2 = .ok (.aload_n 0, 1) := by decide +kernel
theorem dL_open_3 : decode cL_open 3 = .ok (.iload_n 1, 1) := by decide +kernel
theorem dL_open_4 : decode cL_open 4 = .ok (.invokevirtual 21, 3) := by decide +kernel
theorem dL_open_7 : decode cL_open 7 = .ok (.i2l, 1) := by decide +kernel
theorem dL_open_8 : decode cL_open 8 = .ok (.lastore, 1) := by decide +kernel
theorem dL_open_9 : decode cL_open 9 = .ok (.goto 9, 3) := by decide +kernel
theorem dL_open_12 : decode cL_open 12 = .ok (.astore_n 3, 1) := by decide +kernel
theorem dL_open_13 : decode cL_open 13 = .ok (.iconst 1, 1) := by decide +kernel
theorem dL_open_14 : decode cL_open 14 = .ok (.ireturn, 1) := by decide +kernel
theorem dL_open_15 : decode cL_open 15 = .ok (.astore_n 3, 1) := by decide +kernel
theorem dL_open_16 : decode cL_open 16 = .ok (.iconst 2, 1) := by decide +kernel
theorem dL_open_17 : decode cL_open 17 = .ok (.ireturn, 1) := by decide +kernel
theorem dL_open_18 : decode cL_open 18 = .ok (.iconst 0, 1) := by decide +kernel
theorem dL_open_19 : decode cL_open 19 = .ok (.ireturn, 1) := by decide +kernel
set_option maxRecDepth 20000 in
theorem ggL_add_X4_add : GoodIn wsL_add wsX4_add := goodIn_ca (goodIn_ca (goodIn_ca (goodIn_r _ [8, 9, 10, 11, 12, 13, 14, 15, 16, 17, 18, 19, 20, 7, 21, 22, 23, 24, 25, 26, 27, 28, 29, 30, 31, 32, 33, 34, 35, 36, 37, 38, 39, 40, 41, 42, 43, 44, 45, 46, 47, 48, 49, 50, 51, 52, 53, 54, 55, 56, 57, 58, 59, 60, 61, 62, 63, 64, 65, 66, 67, 68, 69, 70, 71, 72, 73, 74, 75, 76] (by decide +kernel) (by decide +kernel)) (goodIn_sub (fun _ h => List.mem_cons_of_mem _ (List.mem_append_left _ (List.mem_append_left _ (List.mem_append_right _ h)))) (by decide +kernel))) (goodIn_sub (fun _ h => List.mem_cons_of_mem _ (List.mem_append_left _ (List.mem_append_right _ h))) (by decide +kernel))) (goodIn_sub (fun _ h => List.mem_cons_of_mem _ (List.mem_append_right _ h)) (by decide +kernel))
set_option maxRecDepth 20000 in
theorem gL_add_X4_add : GoodIn wsL_add (wsV RL 24 RX4 yX4_add wsX4_add) := goodIn_app (goodIn_of _ (by decide +kernel)) ggL_add_X4_add
theorem dL_add_0 : decode cL_add 0 = .ok (.aload 4, 2) := by decide +kernel
theorem dL_add_2 : decode cL_add 2 = .ok (.iconst 0, 1) := by decide +kernel
theorem dL_add_3 : decode cL_add 3 = .ok (.aload_n 0, 1) := by decide +kernel
theorem dL_add_4 : decode cL_add 4 = .ok (.iload_n 1, 1) := by decide +kernel
theorem dL_add_5 : decode cL_add 5 = .ok (.iload_n 2, 1) := by decide +kernel
theorem dL_add_6 : decode cL_add 6 = .ok (.iload_n 3, 1) := by decide +kernel
theorem dL_add_7 : decode cL_add 7 = .ok (.invokevirtual 24, 3) := by decide +kernel
theorem dL_add_10 : decode cL_add 10 = .ok (.i2l, 1) := by decide +kernel
theorem dL_add_11 : decode cL_add 11 = .ok (.lastore, 1) := by decide +kernel
theorem dL_add_12 : decode cL_add 12 = .ok (.goto 15, 3) := by decide +kernel
theorem dL_add_15 : decode cL_add 15 = .ok (.astore 5, 2) := by decide +kernel
theorem dL_add_17 : decode cL_add 17 = .ok (.iconst 1, 1) := by decide +kernel
theorem dL_add_18 : decode cL_add 18 = .ok (.ireturn, 1) := by decide +kernel
theorem dL_add_19 : decode cL_add 19 = .ok (.astore 5, 2) := by decide +kernel
theorem dL_add_21 : decode cL_add 21 = .ok (.iconst 2, 1) := by decide +kernel
theorem dL_add_22 : decode cL_add 22 = .ok (.ireturn, 1) := by decide +kernel
theorem dL_add_23 : decode cL_add 23 = .ok (.astore 5, 2) := by decide +kernel
theorem dL_add_25 : decode cL_add 25 = .ok (.iconst 3, 1) := by decide +kernel
theorem dL_add_26 : decode cL_add 26 = .ok (.ireturn, 1) := by decide +kernel
theorem dL_add_27 : decode cL_add 27 = .ok (.iconst 0, 1) := by decide +kernel
theorem dL_add_28 : decode cL_add 28 = .ok (.ireturn, 1) := by decide +kernel
set_option maxRecDepth 20000 in
theorem ggL_pay_X4_pay : GoodIn wsL_pay wsX4_pay := goodIn_ca (goodIn_ca (goodIn_r _ [7, 8, 9, 10, 11, 12, 13, 14, 15, 16, 6, 17, 18, 19, 20, 21, 22, 23, 24, 25, 26, 27, 28, 29, 30, 31, 32, 33, 34, 35, 36, 37, 38, 39, 40, 41, 42, 43, 44, 45, 46, 47, 48, 49, 50, 51, 52, 53, 54, 55, 56, 57, 58, 59, 60, 61, 62, 63, 64, 65, 66, 67, 68, 69] (by decide +kernel) (by decide +kernel)) (goodIn_sub (fun _ h => List.mem_cons_of_mem _ (List.mem_append_left _ (List.mem_append_right _ h))) (by decide +kernel))) (goodIn_sub (fun _ h => List.mem_cons_of_mem _ (List.mem_append_right _ h)) (by decide +kernel))
set_option maxRecDepth 20000 in
theorem gL_pay_X4_pay : GoodIn wsL_pay (wsV RL 30 RX4 yX4_pay wsX4_pay) := goodIn_app (goodIn_of _ (by decide +kernel)) ggL_pay_X4_pay
theorem dL_pay_0 : decode cL_pay 0 = .ok (.aload_n 2, 1) := by decide +kernel
theorem dL_pay_1 : decode cL_pay 1 = .ok (.iconst 0, 1) := by decide +kernel
theorem dL_pay_2 : decode cL_pay 2 = .ok (.aload_n 0, 1) := by decide +kernel
theorem dL_pay_3 : decode cL_pay 3 = .ok (.iload_n 1, 1) := by decide +kernel
theorem dL_pay_4 : decode cL_pay 4 = .ok (.invokevirtual 30, 3) := by decide +kernel
theorem dL_pay_7 : decode cL_pay 7 = .ok (.i2l, 1) := by decide +kernel
theorem dL_pay_8 : decode cL_pay 8 = .ok (.lastore, 1) := by decide +kernel
theorem dL_pay_9 : decode cL_pay 9 = .ok (.goto 9, 3) := by decide +kernel
theorem dL_pay_12 : decode cL_pay 12 = .ok (.astore_n 3, 1) := by decide +kernel
theorem dL_pay_13 : decode cL_pay 13 = .ok (.iconst 1, 1) := by decide +kernel
theorem dL_pay_14 : decode cL_pay 14 = .ok (.ireturn, 1) := by decide +kernel
theorem dL_pay_15 : decode cL_pay 15 = .ok (.astore_n 3, 1) := by decide +kernel
theorem dL_pay_16 : decode cL_pay 16 = .ok (.iconst 2, 1) := by decide +kernel
theorem dL_pay_17 : decode cL_pay 17 = .ok (.ireturn, 1) := by decide +kernel
theorem dL_pay_18 : decode cL_pay 18 = .ok (.iconst 0, 1) := by decide +kernel
theorem dL_pay_19 : decode cL_pay 19 = .ok (.ireturn, 1) := by decide +kernel
set_option maxRecDepth 20000 in
theorem ggL_paid_X4_paid : GoodIn wsL_paid wsX4_paid := goodIn_ca (goodIn_r _ [6, 7, 8, 9, 10, 5, 11, 12, 13, 14, 15, 16, 17, 18, 19, 20, 21, 22, 23, 24, 25, 26, 27, 28, 29, 30, 31, 32, 33] (by decide +kernel) (by decide +kernel)) (goodIn_sub (fun _ h => List.mem_cons_of_mem _ (List.mem_append_right _ h)) (by decide +kernel))
set_option maxRecDepth 20000 in
theorem gL_paid_X4_paid : GoodIn wsL_paid (wsV RL 33 RX4 yX4_paid wsX4_paid) := goodIn_app (goodIn_of _ (by decide +kernel)) ggL_paid_X4_paid
theorem dL_paid_0 : decode cL_paid 0 = .ok (.aload_n 2, 1) := by decide +kernel
theorem dL_paid_1 : decode cL_paid 1 = .ok (.iconst 0, 1) := by decide +kernel
theorem dL_paid_2 : decode cL_paid 2 = .ok (.aload_n 0, 1) := by decide +kernel
theorem dL_paid_3 : decode cL_paid 3 = .ok (.iload_n 1, 1) := by decide +kernel
theorem dL_paid_4 : decode cL_paid 4 = .ok (.invokevirtual 33, 3) := by decide +kernel
theorem dL_paid_7 : decode cL_paid 7 = .ok (.i2l, 1) := by decide +kernel
theorem dL_paid_8 : decode cL_paid 8 = .ok (.lastore, 1) := by decide +kernel
theorem dL_paid_9 : decode cL_paid 9 = .ok (.goto 6, 3) := by decide +kernel
theorem dL_paid_12 : decode cL_paid 12 = .ok (.astore_n 3, 1) := by decide +kernel
theorem dL_paid_13 : decode cL_paid 13 = .ok (.iconst 1, 1) := by decide +kernel
theorem dL_paid_14 : decode cL_paid 14 = .ok (.ireturn, 1) := by decide +kernel
theorem dL_paid_15 : decode cL_paid 15 = .ok (.iconst 0, 1) := by decide +kernel
theorem dL_paid_16 : decode cL_paid 16 = .ok (.ireturn, 1) := by decide +kernel
set_option maxRecDepth 20000 in
theorem ggL_kept_X4_kept : GoodIn wsL_kept wsX4_kept := goodIn_ca (goodIn_r _ [6, 7, 8, 9, 10, 5, 11, 12, 13, 14, 15, 16, 17, 18, 19, 20, 21, 22, 23, 24, 25, 26, 27, 28, 29, 30, 31, 32, 33, 34, 35, 36, 37, 38, 39, 40, 41, 42, 43, 44, 45, 46, 47] (by decide +kernel) (by decide +kernel)) (goodIn_sub (fun _ h => List.mem_cons_of_mem _ (List.mem_append_right _ h)) (by decide +kernel))
set_option maxRecDepth 20000 in
theorem gL_kept_X4_kept : GoodIn wsL_kept (wsV RL 36 RX4 yX4_kept wsX4_kept) := goodIn_app (goodIn_of _ (by decide +kernel)) ggL_kept_X4_kept
theorem dL_kept_0 : decode cL_kept 0 = .ok (.aload_n 3, 1) := by decide +kernel
theorem dL_kept_1 : decode cL_kept 1 = .ok (.iconst 0, 1) := by decide +kernel
theorem dL_kept_2 : decode cL_kept 2 = .ok (.aload_n 0, 1) := by decide +kernel
theorem dL_kept_3 : decode cL_kept 3 = .ok (.iload_n 1, 1) := by decide +kernel
theorem dL_kept_4 : decode cL_kept 4 = .ok (.iload_n 2, 1) := by decide +kernel
theorem dL_kept_5 : decode cL_kept 5 = .ok (.invokevirtual 36, 3) := by decide +kernel
theorem dL_kept_8 : decode cL_kept 8 = .ok (.i2l, 1) := by decide +kernel
theorem dL_kept_9 : decode cL_kept 9 = .ok (.lastore, 1) := by decide +kernel
theorem dL_kept_10 : decode cL_kept 10 = .ok (.goto 7, 3) := by decide +kernel
theorem dL_kept_13 : decode cL_kept 13 = .ok (.astore 4, 2) := by decide +kernel
theorem dL_kept_15 : decode cL_kept 15 = .ok (.iconst 1, 1) := by decide +kernel
theorem dL_kept_16 : decode cL_kept 16 = .ok (.ireturn, 1) := by decide +kernel
theorem dL_kept_17 : decode cL_kept 17 = .ok (.iconst 0, 1) := by decide +kernel
theorem dL_kept_18 : decode cL_kept 18 = .ok (.ireturn, 1) := by decide +kernel
set_option maxRecDepth 20000 in
theorem ggL_keptValue_X4_keptValue : GoodIn wsL_keptValue wsX4_keptValue := goodIn_ca (goodIn_r _ [6, 7, 8, 9, 5, 10, 11, 12, 13, 14, 15, 16, 17, 18, 19, 20, 21, 22, 23, 24, 25, 26, 27, 28, 29, 30, 31, 32, 33, 34, 35, 36, 37, 38, 39, 40, 41, 42, 43, 44, 45, 46, 47, 48, 49, 50, 51, 52, 53, 54, 55] (by decide +kernel) (by decide +kernel)) (goodIn_sub (fun _ h => List.mem_cons_of_mem _ (List.mem_append_right _ h)) (by decide +kernel))
set_option maxRecDepth 20000 in
theorem gL_keptValue_X4_keptValue : GoodIn wsL_keptValue (wsV RL 40 RX4 yX4_keptValue wsX4_keptValue) := goodIn_app (goodIn_of _ (by decide +kernel)) ggL_keptValue_X4_keptValue
theorem dL_keptValue_0 : decode cL_keptValue 0 = .ok (.aload_n 2, 1) := by decide +kernel
theorem dL_keptValue_1 : decode cL_keptValue 1 = .ok (.iconst 0, 1) := by decide +kernel
theorem dL_keptValue_2 : decode cL_keptValue 2 = .ok (.aload_n 0, 1) := by decide +kernel
theorem dL_keptValue_3 : decode cL_keptValue 3 = .ok (.iload_n 1, 1) := by decide +kernel
theorem dL_keptValue_4 : decode cL_keptValue 4 = .ok (.invokevirtual 40, 3) := by decide +kernel
theorem dL_keptValue_7 : decode cL_keptValue 7 = .ok (.i2l, 1) := by decide +kernel
theorem dL_keptValue_8 : decode cL_keptValue 8 = .ok (.lastore, 1) := by decide +kernel
theorem dL_keptValue_9 : decode cL_keptValue 9 = .ok (.goto 6, 3) := by decide +kernel
theorem dL_keptValue_12 : decode cL_keptValue 12 = .ok (.astore_n 3, 1) := by decide +kernel
theorem dL_keptValue_13 : decode cL_keptValue 13 = .ok (.iconst 1, 1) := by decide +kernel
theorem dL_keptValue_14 : decode cL_keptValue 14 = .ok (.ireturn, 1) := by decide +kernel
theorem dL_keptValue_15 : decode cL_keptValue 15 = .ok (.iconst 0, 1) := by decide +kernel
theorem dL_keptValue_16 : decode cL_keptValue 16 = .ok (.ireturn, 1) := by decide +kernel
set_option maxRecDepth 20000 in
theorem ggL_lineValue_X4_lineValue : GoodIn wsL_lineValue wsX4_lineValue := goodIn_ca (goodIn_r _ [6, 7, 8, 9, 10, 11, 5, 12, 13, 14, 15, 16, 17, 18, 19, 20, 21, 22, 23, 24, 25, 26, 27, 28, 29, 30, 31, 32, 33, 34, 35, 36, 37, 38, 39, 40, 41, 42, 43, 44, 45, 46, 47, 48, 49, 50, 51, 52, 53, 54, 55, 56, 57, 58, 59, 60, 61, 62, 63, 64, 65, 66, 67, 68, 69, 70, 71, 72, 73, 74, 75, 76] (by decide +kernel) (by decide +kernel)) (goodIn_sub (fun _ h => List.mem_cons_of_mem _ (List.mem_append_right _ h)) (by decide +kernel))
set_option maxRecDepth 20000 in
theorem gL_lineValue_X4_lineValue : GoodIn wsL_lineValue (wsV RL 43 RX4 yX4_lineValue wsX4_lineValue) := goodIn_app (goodIn_of _ (by decide +kernel)) ggL_lineValue_X4_lineValue
theorem dL_lineValue_0 : decode cL_lineValue 0 = .ok (.aload_n 3, 1) := by decide +kernel
theorem dL_lineValue_1 : decode cL_lineValue 1 = .ok (.iconst 0, 1) := by decide +kernel
theorem dL_lineValue_2 : decode cL_lineValue 2 = .ok (.aload_n 0, 1) := by decide +kernel
theorem dL_lineValue_3 : decode cL_lineValue 3 = .ok (.iload_n 1, 1) := by decide +kernel
theorem dL_lineValue_4 : decode cL_lineValue 4 = .ok (.iload_n 2, 1) := by decide +kernel
theorem dL_lineValue_5 : decode cL_lineValue 5 = .ok (.invokevirtual 43, 3) := by decide +kernel
theorem dL_lineValue_8 : decode cL_lineValue 8 = .ok (.i2l, 1) := by decide +kernel
theorem dL_lineValue_9 : decode cL_lineValue 9 = .ok (.lastore, 1) := by decide +kernel
theorem dL_lineValue_10 : decode cL_lineValue 10 = .ok (.goto 7, 3) := by decide +kernel
theorem dL_lineValue_13 : decode cL_lineValue 13 = .ok (.astore 4, 2) := by decide +kernel
theorem dL_lineValue_15 : decode cL_lineValue 15 = .ok (.iconst 1, 1) := by decide +kernel
theorem dL_lineValue_16 : decode cL_lineValue 16 = .ok (.ireturn, 1) := by decide +kernel
theorem dL_lineValue_17 : decode cL_lineValue 17 = .ok (.iconst 0, 1) := by decide +kernel
theorem dL_lineValue_18 : decode cL_lineValue 18 = .ok (.ireturn, 1) := by decide +kernel
set_option maxRecDepth 20000 in
theorem ggL_giveBack_X4_giveBack : GoodIn wsL_giveBack wsX4_giveBack := goodIn_ca (goodIn_ca (goodIn_ca (goodIn_r _ [8, 9, 10, 11, 12, 13, 14, 15, 16, 17, 7, 18, 19, 20, 21, 22, 23, 24, 25, 26, 27, 28, 29, 30, 31, 32, 33, 34, 35, 36, 37, 38, 39, 40, 41, 42, 43, 44, 45, 46, 47, 48, 49, 50, 51, 52, 53, 54, 55, 56, 57, 58, 59, 60, 61, 62, 63, 64, 65, 66, 67, 68, 69, 70, 71, 72, 73, 74, 75, 76, 77, 78, 79, 80, 81, 82, 83, 84, 85, 86, 87, 88, 89, 90, 91, 92, 93, 94, 95, 96, 97, 98, 99, 100, 101, 102, 103, 104, 105, 106, 107, 108, 109, 110, 111, 112, 113, 114, 115, 116, 117, 118, 119, 120, 121, 122, 123, 124, 125, 126, 127, 128, 129, 130, 131, 132, 133, 134, 135, 136, 137, 138, 139, 140, 141, 142, 143, 144, 145, 146, 147, 148, 149, 150, 151, 152, 153, 154, 155, 156, 157, 158, 159, 160, 161, 162, 163, 164, 165, 166, 167, 168, 169] (by decide +kernel) (by decide +kernel)) (goodIn_sub (fun _ h => List.mem_cons_of_mem _ (List.mem_append_left _ (List.mem_append_left _ (List.mem_append_right _ h)))) (by decide +kernel))) (goodIn_sub (fun _ h => List.mem_cons_of_mem _ (List.mem_append_left _ (List.mem_append_right _ h))) (by decide +kernel))) (goodIn_sub (fun _ h => List.mem_cons_of_mem _ (List.mem_append_right _ h)) (by decide +kernel))
set_option maxRecDepth 20000 in
theorem gL_giveBack_X4_giveBack : GoodIn wsL_giveBack (wsV RL 46 RX4 yX4_giveBack wsX4_giveBack) := goodIn_app (goodIn_of _ (by decide +kernel)) ggL_giveBack_X4_giveBack
theorem dL_giveBack_0 : decode cL_giveBack 0 = .ok (.aload 5, 2) := by decide +kernel
theorem dL_giveBack_2 : decode cL_giveBack 2 = .ok (.iconst 0, 1) := by decide +kernel
theorem dL_giveBack_3 : decode cL_giveBack 3 = .ok (.aload_n 0, 1) := by decide +kernel
theorem dL_giveBack_4 : decode cL_giveBack 4 = .ok (.iload_n 1, 1) := by decide +kernel
theorem dL_giveBack_5 : decode cL_giveBack 5 = .ok (.iload_n 2, 1) := by decide +kernel
theorem dL_giveBack_6 : decode cL_giveBack 6 = .ok (.iload_n 3, 1) := by decide +kernel
theorem dL_giveBack_7 : decode cL_giveBack 7 = .ok (.iload 4, 2) := by decide +kernel
theorem dL_giveBack_9 : decode cL_giveBack 9 = .ok (.invokevirtual 46, 3) := by decide +kernel
theorem dL_giveBack_12 : decode cL_giveBack 12 = .ok (.i2l, 1) := by decide +kernel
theorem dL_giveBack_13 : decode cL_giveBack 13 = .ok (.lastore, 1) := by decide +kernel
theorem dL_giveBack_14 : decode cL_giveBack 14 = .ok (.goto 15, 3) := by decide +kernel
theorem dL_giveBack_17 : decode cL_giveBack 17 = .ok (.astore 6, 2) := by decide +kernel
theorem dL_giveBack_19 : decode cL_giveBack 19 = .ok (.iconst 1, 1) := by decide +kernel
theorem dL_giveBack_20 : decode cL_giveBack 20 = .ok (.ireturn, 1) := by decide +kernel
theorem dL_giveBack_21 : decode cL_giveBack 21 = .ok (.astore 6, 2) := by decide +kernel
theorem dL_giveBack_23 : decode cL_giveBack 23 = .ok (.iconst 2, 1) := by decide +kernel
theorem dL_giveBack_24 : decode cL_giveBack 24 = .ok (.ireturn, 1) := by decide +kernel
theorem dL_giveBack_25 : decode cL_giveBack 25 = .ok (.astore 6, 2) := by decide +kernel
theorem dL_giveBack_27 : decode cL_giveBack 27 = .ok (.iconst 3, 1) := by decide +kernel
theorem dL_giveBack_28 : decode cL_giveBack 28 = .ok (.ireturn, 1) := by decide +kernel
theorem dL_giveBack_29 : decode cL_giveBack 29 = .ok (.iconst 0, 1) := by decide +kernel
theorem dL_giveBack_30 : decode cL_giveBack 30 = .ok (.ireturn, 1) := by decide +kernel
set_option maxRecDepth 20000 in
theorem ggL_exchange_X4_exchange : GoodIn wsL_exchange wsX4_exchange := goodIn_ca (goodIn_ca (goodIn_ca (goodIn_r _ [8, 9, 10, 11, 12, 13, 14, 15, 16, 17, 18, 19, 20, 21, 22, 23, 24, 25, 26, 7, 27, 28, 29, 30, 31, 32, 33, 34, 35, 36, 37, 38, 39, 40, 41, 42, 43, 44, 45, 46, 47, 48, 49, 50, 51, 52, 53, 54, 55, 56, 57, 58, 59, 60, 61, 62, 63, 64, 65, 66, 67, 68, 69, 70, 71, 72, 73, 74, 75, 76, 77, 78, 79, 80, 81, 82, 83, 84, 85, 86, 87, 88, 89, 90, 91, 92, 93, 94, 95, 96, 97, 98, 99, 100, 101, 102, 103, 104, 105, 106, 107, 108, 109, 110, 111, 112, 113, 114, 115, 116, 117, 118, 119, 120, 121, 122, 123, 124, 125, 126, 127, 128, 129, 130, 131, 132, 133, 134, 135, 136, 137, 138, 139, 140, 141, 142, 143, 144, 145, 146, 147, 148, 149, 150, 151, 152, 153, 154, 155, 156, 157, 158, 159, 160, 161, 162, 163, 164, 165, 166, 167, 168, 169, 170, 171, 172, 173, 174, 175, 176, 177, 178, 179, 180, 181, 182, 183, 184, 185, 186, 187, 188, 189, 190, 191, 192, 193, 194, 195, 196, 197, 198, 199, 200, 201, 202, 203, 204, 205, 206, 207, 208, 209, 210, 211, 212, 213, 214, 215] (by decide +kernel) (by decide +kernel)) (goodIn_sub (fun _ h => List.mem_cons_of_mem _ (List.mem_append_left _ (List.mem_append_left _ (List.mem_append_right _ h)))) (by decide +kernel))) (goodIn_sub (fun _ h => List.mem_cons_of_mem _ (List.mem_append_left _ (List.mem_append_right _ h))) (by decide +kernel))) (goodIn_sub (fun _ h => List.mem_cons_of_mem _ (List.mem_append_right _ h)) (by decide +kernel))
set_option maxRecDepth 20000 in
theorem gL_exchange_X4_exchange : GoodIn wsL_exchange (wsV RL 49 RX4 yX4_exchange wsX4_exchange) := goodIn_app (goodIn_of _ (by decide +kernel)) ggL_exchange_X4_exchange
theorem dL_exchange_0 : decode cL_exchange 0 = .ok (.aload 6, 2) := by decide +kernel
theorem dL_exchange_2 : decode cL_exchange 2 = .ok (.iconst 0, 1) := by decide +kernel
theorem dL_exchange_3 : decode cL_exchange 3 = .ok (.aload_n 0, 1) := by decide +kernel
theorem dL_exchange_4 : decode cL_exchange 4 = .ok (.iload_n 1, 1) := by decide +kernel
theorem dL_exchange_5 : decode cL_exchange 5 = .ok (.iload_n 2, 1) := by decide +kernel
theorem dL_exchange_6 : decode cL_exchange 6 = .ok (.iload_n 3, 1) := by decide +kernel
theorem dL_exchange_7 : decode cL_exchange 7 = .ok (.iload 4, 2) := by decide +kernel
theorem dL_exchange_9 : decode cL_exchange 9 = .ok (.iload 5, 2) := by decide +kernel
theorem dL_exchange_11 : decode cL_exchange 11 = .ok (.invokevirtual 49, 3) := by decide +kernel
theorem dL_exchange_14 : decode cL_exchange 14 = .ok (.i2l, 1) := by decide +kernel
theorem dL_exchange_15 : decode cL_exchange 15 = .ok (.lastore, 1) := by decide +kernel
theorem dL_exchange_16 : decode cL_exchange 16 = .ok (.goto 15, 3) := by decide +kernel
theorem dL_exchange_19 : decode cL_exchange 19 = .ok (.astore 7, 2) := by decide +kernel
theorem dL_exchange_21 : decode cL_exchange 21 = .ok (.iconst 1, 1) := by decide +kernel
theorem dL_exchange_22 : decode cL_exchange 22 = .ok (.ireturn, 1) := by decide +kernel
theorem dL_exchange_23 : decode cL_exchange 23 = .ok (.astore 7, 2) := by decide +kernel
theorem dL_exchange_25 : decode cL_exchange 25 = .ok (.iconst 2, 1) := by decide +kernel
theorem dL_exchange_26 : decode cL_exchange 26 = .ok (.ireturn, 1) := by decide +kernel
theorem dL_exchange_27 : decode cL_exchange 27 = .ok (.astore 7, 2) := by decide +kernel
theorem dL_exchange_29 : decode cL_exchange 29 = .ok (.iconst 3, 1) := by decide +kernel
theorem dL_exchange_30 : decode cL_exchange 30 = .ok (.ireturn, 1) := by decide +kernel
theorem dL_exchange_31 : decode cL_exchange 31 = .ok (.iconst 0, 1) := by decide +kernel
theorem dL_exchange_32 : decode cL_exchange 32 = .ok (.ireturn, 1) := by decide +kernel
set_option maxRecDepth 20000 in
theorem ggL_quote_X4_quote : GoodIn wsL_quote wsX4_quote := goodIn_ca (goodIn_ca (goodIn_ca (goodIn_r _ [8, 9, 10, 11, 12, 13, 14, 15, 7, 16, 17, 18, 19, 20, 21, 22, 23, 24, 25, 26, 27, 28, 29, 30, 31, 32, 33, 34, 35, 36, 37, 38, 39, 40, 41, 42, 43, 44, 45, 46, 47, 48, 49, 50, 51, 52, 53, 54, 55, 56, 57, 58, 59, 60, 61, 62, 63, 64, 65, 66, 67, 68, 69, 70, 71, 72, 73, 74, 75, 76, 77, 78, 79, 80, 81, 82, 83, 84, 85, 86, 87, 88, 89, 90, 91, 92, 93, 94, 95, 96, 97, 98, 99] (by decide +kernel) (by decide +kernel)) (goodIn_sub (fun _ h => List.mem_cons_of_mem _ (List.mem_append_left _ (List.mem_append_left _ (List.mem_append_right _ h)))) (by decide +kernel))) (goodIn_sub (fun _ h => List.mem_cons_of_mem _ (List.mem_append_left _ (List.mem_append_right _ h))) (by decide +kernel))) (goodIn_sub (fun _ h => List.mem_cons_of_mem _ (List.mem_append_right _ h)) (by decide +kernel))
set_option maxRecDepth 20000 in
theorem gL_quote_X4_quote : GoodIn wsL_quote (wsV RL 53 RX4 yX4_quote wsX4_quote) := goodIn_app (goodIn_of _ (by decide +kernel)) ggL_quote_X4_quote
theorem dL_quote_0 : decode cL_quote 0 = .ok (.aload 5, 2) := by decide +kernel
theorem dL_quote_2 : decode cL_quote 2 = .ok (.iconst 0, 1) := by decide +kernel
theorem dL_quote_3 : decode cL_quote 3 = .ok (.aload_n 0, 1) := by decide +kernel
theorem dL_quote_4 : decode cL_quote 4 = .ok (.iload_n 1, 1) := by decide +kernel
theorem dL_quote_5 : decode cL_quote 5 = .ok (.iload_n 2, 1) := by decide +kernel
theorem dL_quote_6 : decode cL_quote 6 = .ok (.iload_n 3, 1) := by decide +kernel
theorem dL_quote_7 : decode cL_quote 7 = .ok (.iload 4, 2) := by decide +kernel
theorem dL_quote_9 : decode cL_quote 9 = .ok (.invokevirtual 53, 3) := by decide +kernel
theorem dL_quote_12 : decode cL_quote 12 = .ok (.i2l, 1) := by decide +kernel
theorem dL_quote_13 : decode cL_quote 13 = .ok (.lastore, 1) := by decide +kernel
theorem dL_quote_14 : decode cL_quote 14 = .ok (.goto 15, 3) := by decide +kernel
theorem dL_quote_17 : decode cL_quote 17 = .ok (.astore 6, 2) := by decide +kernel
theorem dL_quote_19 : decode cL_quote 19 = .ok (.iconst 1, 1) := by decide +kernel
theorem dL_quote_20 : decode cL_quote 20 = .ok (.ireturn, 1) := by decide +kernel
theorem dL_quote_21 : decode cL_quote 21 = .ok (.astore 6, 2) := by decide +kernel
theorem dL_quote_23 : decode cL_quote 23 = .ok (.iconst 2, 1) := by decide +kernel
theorem dL_quote_24 : decode cL_quote 24 = .ok (.ireturn, 1) := by decide +kernel
theorem dL_quote_25 : decode cL_quote 25 = .ok (.astore 6, 2) := by decide +kernel
theorem dL_quote_27 : decode cL_quote 27 = .ok (.iconst 3, 1) := by decide +kernel
theorem dL_quote_28 : decode cL_quote 28 = .ok (.ireturn, 1) := by decide +kernel
theorem dL_quote_29 : decode cL_quote 29 = .ok (.iconst 0, 1) := by decide +kernel
theorem dL_quote_30 : decode cL_quote 30 = .ok (.ireturn, 1) := by decide +kernel
set_option maxRecDepth 20000 in
theorem ggL_released_X4_released : GoodIn wsL_released wsX4_released := goodIn_ca (goodIn_r _ [6, 7, 8, 9, 10, 5, 11, 12, 13, 14, 15, 16, 17, 18, 19, 20, 21, 22, 23, 24, 25, 26, 27, 28, 29, 30, 31, 32, 33] (by decide +kernel) (by decide +kernel)) (goodIn_sub (fun _ h => List.mem_cons_of_mem _ (List.mem_append_right _ h)) (by decide +kernel))
set_option maxRecDepth 20000 in
theorem gL_released_X4_released : GoodIn wsL_released (wsV RL 56 RX4 yX4_released wsX4_released) := goodIn_app (goodIn_of _ (by decide +kernel)) ggL_released_X4_released
theorem dL_released_0 : decode cL_released 0 = .ok (.aload_n 2, 1) := by decide +kernel
theorem dL_released_1 : decode cL_released 1 = .ok (.iconst 0, 1) := by decide +kernel
theorem dL_released_2 : decode cL_released 2 = .ok (.aload_n 0, 1) := by decide +kernel
theorem dL_released_3 : decode cL_released 3 = .ok (.iload_n 1, 1) := by decide +kernel
theorem dL_released_4 : decode cL_released 4 = .ok (.invokevirtual 56, 3) := by decide +kernel
theorem dL_released_7 : decode cL_released 7 = .ok (.i2l, 1) := by decide +kernel
theorem dL_released_8 : decode cL_released 8 = .ok (.lastore, 1) := by decide +kernel
theorem dL_released_9 : decode cL_released 9 = .ok (.goto 6, 3) := by decide +kernel
theorem dL_released_12 : decode cL_released 12 = .ok (.astore_n 3, 1) := by decide +kernel
theorem dL_released_13 : decode cL_released 13 = .ok (.iconst 1, 1) := by decide +kernel
theorem dL_released_14 : decode cL_released 14 = .ok (.ireturn, 1) := by decide +kernel
theorem dL_released_15 : decode cL_released 15 = .ok (.iconst 0, 1) := by decide +kernel
theorem dL_released_16 : decode cL_released 16 = .ok (.ireturn, 1) := by decide +kernel
set_option maxRecDepth 20000 in
theorem ggL_firstSale_X4_firstSale : GoodIn wsL_firstSale wsX4_firstSale := goodIn_ca (goodIn_r _ [6, 7, 8, 9, 10, 5, 11, 12, 13, 14, 15, 16, 17, 18, 19, 20, 21, 22, 23, 24, 25, 26, 27, 28, 29, 30, 31, 32, 33] (by decide +kernel) (by decide +kernel)) (goodIn_sub (fun _ h => List.mem_cons_of_mem _ (List.mem_append_right _ h)) (by decide +kernel))
set_option maxRecDepth 20000 in
theorem gL_firstSale_X4_firstSale : GoodIn wsL_firstSale (wsV RL 59 RX4 yX4_firstSale wsX4_firstSale) := goodIn_app (goodIn_of _ (by decide +kernel)) ggL_firstSale_X4_firstSale
theorem dL_firstSale_0 : decode cL_firstSale 0 = .ok (.aload_n 2, 1) := by decide +kernel
theorem dL_firstSale_1 : decode cL_firstSale 1 = .ok (.iconst 0, 1) := by decide +kernel
theorem dL_firstSale_2 : decode cL_firstSale 2 = .ok (.aload_n 0, 1) := by decide +kernel
theorem dL_firstSale_3 : decode cL_firstSale 3 = .ok (.iload_n 1, 1) := by decide +kernel
theorem dL_firstSale_4 : decode cL_firstSale 4 = .ok (.invokevirtual 59, 3) := by decide +kernel
theorem dL_firstSale_7 : decode cL_firstSale 7 = .ok (.i2l, 1) := by decide +kernel
theorem dL_firstSale_8 : decode cL_firstSale 8 = .ok (.lastore, 1) := by decide +kernel
theorem dL_firstSale_9 : decode cL_firstSale 9 = .ok (.goto 6, 3) := by decide +kernel
theorem dL_firstSale_12 : decode cL_firstSale 12 = .ok (.astore_n 3, 1) := by decide +kernel
theorem dL_firstSale_13 : decode cL_firstSale 13 = .ok (.iconst 1, 1) := by decide +kernel
theorem dL_firstSale_14 : decode cL_firstSale 14 = .ok (.ireturn, 1) := by decide +kernel
theorem dL_firstSale_15 : decode cL_firstSale 15 = .ok (.iconst 0, 1) := by decide +kernel
theorem dL_firstSale_16 : decode cL_firstSale 16 = .ok (.ireturn, 1) := by decide +kernel
set_option maxRecDepth 20000 in
theorem ggL_exchanges_X4_exchanges : GoodIn wsL_exchanges wsX4_exchanges := goodIn_ca (goodIn_r _ [6, 7, 8, 9, 10, 5, 11, 12, 13, 14, 15, 16, 17, 18, 19, 20, 21, 22, 23, 24, 25, 26, 27, 28, 29, 30, 31, 32, 33] (by decide +kernel) (by decide +kernel)) (goodIn_sub (fun _ h => List.mem_cons_of_mem _ (List.mem_append_right _ h)) (by decide +kernel))
set_option maxRecDepth 20000 in
theorem gL_exchanges_X4_exchanges : GoodIn wsL_exchanges (wsV RL 62 RX4 yX4_exchanges wsX4_exchanges) := goodIn_app (goodIn_of _ (by decide +kernel)) ggL_exchanges_X4_exchanges
theorem dL_exchanges_0 : decode cL_exchanges 0 = .ok (.aload_n 2, 1) := by decide +kernel
theorem dL_exchanges_1 : decode cL_exchanges 1 = .ok (.iconst 0, 1) := by decide +kernel
theorem dL_exchanges_2 : decode cL_exchanges 2 = .ok (.aload_n 0, 1) := by decide +kernel
theorem dL_exchanges_3 : decode cL_exchanges 3 = .ok (.iload_n 1, 1) := by decide +kernel
theorem dL_exchanges_4 : decode cL_exchanges 4 = .ok (.invokevirtual 62, 3) := by decide +kernel
theorem dL_exchanges_7 : decode cL_exchanges 7 = .ok (.i2l, 1) := by decide +kernel
theorem dL_exchanges_8 : decode cL_exchanges 8 = .ok (.lastore, 1) := by decide +kernel
theorem dL_exchanges_9 : decode cL_exchanges 9 = .ok (.goto 6, 3) := by decide +kernel
theorem dL_exchanges_12 : decode cL_exchanges 12 = .ok (.astore_n 3, 1) := by decide +kernel
theorem dL_exchanges_13 : decode cL_exchanges 13 = .ok (.iconst 1, 1) := by decide +kernel
theorem dL_exchanges_14 : decode cL_exchanges 14 = .ok (.ireturn, 1) := by decide +kernel
theorem dL_exchanges_15 : decode cL_exchanges 15 = .ok (.iconst 0, 1) := by decide +kernel
theorem dL_exchanges_16 : decode cL_exchanges 16 = .ok (.ireturn, 1) := by decide +kernel
set_option maxRecDepth 20000 in
theorem ggL_bestOption_X4_bestOption : GoodIn wsL_bestOption wsX4_bestOption := goodIn_ca (goodIn_r _ [6, 7, 8, 9, 10, 11, 5, 12, 13, 14, 15, 16, 17, 18, 19, 20, 21, 22, 23, 24, 25, 26, 27, 28, 29, 30, 31, 32, 33, 34, 35, 36, 37, 38, 39, 40, 41, 42, 43, 44, 45, 46, 47, 48, 49, 50, 51, 52, 53, 54, 55, 56, 57] (by decide +kernel) (by decide +kernel)) (goodIn_sub (fun _ h => List.mem_cons_of_mem _ (List.mem_append_right _ h)) (by decide +kernel))
set_option maxRecDepth 20000 in
theorem gL_bestOption_X4_bestOption : GoodIn wsL_bestOption (wsV RL 65 RX4 yX4_bestOption wsX4_bestOption) := goodIn_app (goodIn_of _ (by decide +kernel)) ggL_bestOption_X4_bestOption
theorem dL_bestOption_0 : decode cL_bestOption 0 = .ok (.aload_n 3, 1) := by decide +kernel
theorem dL_bestOption_1 : decode cL_bestOption 1 = .ok (.iconst 0, 1) := by decide +kernel
theorem dL_bestOption_2 : decode cL_bestOption 2 = .ok (.aload_n 0, 1) := by decide +kernel
theorem dL_bestOption_3 : decode cL_bestOption 3 = .ok (.iload_n 1, 1) := by decide +kernel
theorem dL_bestOption_4 : decode cL_bestOption 4 = .ok (.iload_n 2, 1) := by decide +kernel
theorem dL_bestOption_5 : decode cL_bestOption 5 = .ok (.invokevirtual 65, 3) := by decide +kernel
theorem dL_bestOption_8 : decode cL_bestOption 8 = .ok (.i2l, 1) := by decide +kernel
theorem dL_bestOption_9 : decode cL_bestOption 9 = .ok (.lastore, 1) := by decide +kernel
theorem dL_bestOption_10 : decode cL_bestOption 10 = .ok (.goto 7, 3) := by decide +kernel
theorem dL_bestOption_13 : decode cL_bestOption 13 = .ok (.astore 4, 2) := by decide +kernel
theorem dL_bestOption_15 : decode cL_bestOption 15 = .ok (.iconst 1, 1) := by decide +kernel
theorem dL_bestOption_16 : decode cL_bestOption 16 = .ok (.ireturn, 1) := by decide +kernel
theorem dL_bestOption_17 : decode cL_bestOption 17 = .ok (.iconst 0, 1) := by decide +kernel
theorem dL_bestOption_18 : decode cL_bestOption 18 = .ok (.ireturn, 1) := by decide +kernel
set_option maxRecDepth 20000 in
theorem ggL_bestWorth_X4_bestWorth : GoodIn wsL_bestWorth wsX4_bestWorth := goodIn_ca (goodIn_r _ [6, 7, 8, 9, 10, 11, 5, 12, 13, 14, 15, 16, 17, 18, 19, 20, 21, 22, 23, 24, 25, 26, 27, 28, 29, 30, 31, 32, 33, 34, 35, 36, 37, 38, 39, 40, 41, 42, 43, 44, 45, 46, 47, 48, 49, 50, 51, 52, 53, 54, 55, 56, 57, 58] (by decide +kernel) (by decide +kernel)) (goodIn_sub (fun _ h => List.mem_cons_of_mem _ (List.mem_append_right _ h)) (by decide +kernel))
set_option maxRecDepth 20000 in
theorem gL_bestWorth_X4_bestWorth : GoodIn wsL_bestWorth (wsV RL 68 RX4 yX4_bestWorth wsX4_bestWorth) := goodIn_app (goodIn_of _ (by decide +kernel)) ggL_bestWorth_X4_bestWorth
theorem dL_bestWorth_0 : decode cL_bestWorth 0 = .ok (.aload_n 3, 1) := by decide +kernel
theorem dL_bestWorth_1 : decode cL_bestWorth 1 = .ok (.iconst 0, 1) := by decide +kernel
theorem dL_bestWorth_2 : decode cL_bestWorth 2 = .ok (.aload_n 0, 1) := by decide +kernel
theorem dL_bestWorth_3 : decode cL_bestWorth 3 = .ok (.iload_n 1, 1) := by decide +kernel
theorem dL_bestWorth_4 : decode cL_bestWorth 4 = .ok (.iload_n 2, 1) := by decide +kernel
theorem dL_bestWorth_5 : decode cL_bestWorth 5 = .ok (.invokevirtual 68, 3) := by decide +kernel
theorem dL_bestWorth_8 : decode cL_bestWorth 8 = .ok (.i2l, 1) := by decide +kernel
theorem dL_bestWorth_9 : decode cL_bestWorth 9 = .ok (.lastore, 1) := by decide +kernel
theorem dL_bestWorth_10 : decode cL_bestWorth 10 = .ok (.goto 7, 3) := by decide +kernel
theorem dL_bestWorth_13 : decode cL_bestWorth 13 = .ok (.astore 4, 2) := by decide +kernel
theorem dL_bestWorth_15 : decode cL_bestWorth 15 = .ok (.iconst 1, 1) := by decide +kernel
theorem dL_bestWorth_16 : decode cL_bestWorth 16 = .ok (.ireturn, 1) := by decide +kernel
theorem dL_bestWorth_17 : decode cL_bestWorth 17 = .ok (.iconst 0, 1) := by decide +kernel
theorem dL_bestWorth_18 : decode cL_bestWorth 18 = .ok (.ireturn, 1) := by decide +kernel
set_option maxRecDepth 20000 in
theorem ggL_stock_X4_stock : GoodIn wsL_stock wsX4_stock := goodIn_ca (goodIn_r _ [6, 7, 8, 9, 10, 11, 5, 12, 13, 14, 15, 16, 17, 18, 19, 20, 21, 22, 23, 24, 25, 26, 27, 28, 29] (by decide +kernel) (by decide +kernel)) (goodIn_sub (fun _ h => List.mem_cons_of_mem _ (List.mem_append_right _ h)) (by decide +kernel))
set_option maxRecDepth 20000 in
theorem gL_stock_X4_stock : GoodIn wsL_stock (wsV RL 71 RX4 yX4_stock wsX4_stock) := goodIn_app (goodIn_of _ (by decide +kernel)) ggL_stock_X4_stock
theorem dL_stock_0 : decode cL_stock 0 = .ok (.aload_n 3, 1) := by decide +kernel
theorem dL_stock_1 : decode cL_stock 1 = .ok (.iconst 0, 1) := by decide +kernel
theorem dL_stock_2 : decode cL_stock 2 = .ok (.aload_n 0, 1) := by decide +kernel
theorem dL_stock_3 : decode cL_stock 3 = .ok (.iload_n 1, 1) := by decide +kernel
theorem dL_stock_4 : decode cL_stock 4 = .ok (.iload_n 2, 1) := by decide +kernel
theorem dL_stock_5 : decode cL_stock 5 = .ok (.invokevirtual 71, 3) := by decide +kernel
theorem dL_stock_8 : decode cL_stock 8 = .ok (.i2l, 1) := by decide +kernel
theorem dL_stock_9 : decode cL_stock 9 = .ok (.lastore, 1) := by decide +kernel
theorem dL_stock_10 : decode cL_stock 10 = .ok (.goto 7, 3) := by decide +kernel
theorem dL_stock_13 : decode cL_stock 13 = .ok (.astore 4, 2) := by decide +kernel
theorem dL_stock_15 : decode cL_stock 15 = .ok (.iconst 1, 1) := by decide +kernel
theorem dL_stock_16 : decode cL_stock 16 = .ok (.ireturn, 1) := by decide +kernel
theorem dL_stock_17 : decode cL_stock 17 = .ok (.iconst 0, 1) := by decide +kernel
theorem dL_stock_18 : decode cL_stock 18 = .ok (.ireturn, 1) := by decide +kernel
set_option maxRecDepth 20000 in
theorem ggL_test_X4_test : GoodIn wsL_test wsX4_test := goodIn_ca (goodIn_ca (goodIn_r _ [7, 8, 9, 10, 11, 12, 13, 14, 6, 15, 16, 17, 18, 19, 20, 21, 22, 23, 24, 25, 26, 27, 28, 29, 30, 31, 32, 33, 34, 35, 36, 37, 38, 39, 40, 41, 42, 43, 44, 45, 46, 47, 48, 49, 50, 51, 52, 53, 54, 55, 56, 57, 58, 59, 60, 61, 62, 63, 64, 65, 66] (by decide +kernel) (by decide +kernel)) (goodIn_sub (fun _ h => List.mem_cons_of_mem _ (List.mem_append_left _ (List.mem_append_right _ h))) (by decide +kernel))) (goodIn_sub (fun _ h => List.mem_cons_of_mem _ (List.mem_append_right _ h)) (by decide +kernel))
set_option maxRecDepth 20000 in
theorem gL_test_X4_test : GoodIn wsL_test (wsV RL 74 RX4 yX4_test wsX4_test) := goodIn_app (goodIn_of _ (by decide +kernel)) ggL_test_X4_test
theorem dL_test_0 : decode cL_test 0 = .ok (.aload_n 3, 1) := by decide +kernel
theorem dL_test_1 : decode cL_test 1 = .ok (.iconst 0, 1) := by decide +kernel
theorem dL_test_2 : decode cL_test 2 = .ok (.aload_n 0, 1) := by decide +kernel
theorem dL_test_3 : decode cL_test 3 = .ok (.iload_n 1, 1) := by decide +kernel
theorem dL_test_4 : decode cL_test 4 = .ok (.iload_n 2, 1) := by decide +kernel
theorem dL_test_5 : decode cL_test 5 = .ok (.invokevirtual 74, 3) := by decide +kernel
theorem dL_test_8 : decode cL_test 8 = .ok (.i2l, 1) := by decide +kernel
theorem dL_test_9 : decode cL_test 9 = .ok (.lastore, 1) := by decide +kernel
theorem dL_test_10 : decode cL_test 10 = .ok (.goto 11, 3) := by decide +kernel
theorem dL_test_13 : decode cL_test 13 = .ok (.astore 4, 2) := by decide +kernel
theorem dL_test_15 : decode cL_test 15 = .ok (.iconst 1, 1) := by decide +kernel
theorem dL_test_16 : decode cL_test 16 = .ok (.ireturn, 1) := by decide +kernel
theorem dL_test_17 : decode cL_test 17 = .ok (.astore 4, 2) := by decide +kernel
theorem dL_test_19 : decode cL_test 19 = .ok (.iconst 2, 1) := by decide +kernel
theorem dL_test_20 : decode cL_test 20 = .ok (.ireturn, 1) := by decide +kernel
theorem dL_test_21 : decode cL_test 21 = .ok (.iconst 0, 1) := by decide +kernel
theorem dL_test_22 : decode cL_test 22 = .ok (.ireturn, 1) := by decide +kernel
set_option maxRecDepth 20000 in
theorem ggL_score_X4_score : GoodIn wsL_score wsX4_score := goodIn_ca (goodIn_r _ [6, 7, 8, 9, 10, 11, 12, 5, 13, 14, 15, 16, 17, 18, 19, 20, 21, 22, 23, 24, 25, 26, 27, 28, 29, 30, 31, 32, 33] (by decide +kernel) (by decide +kernel)) (goodIn_sub (fun _ h => List.mem_cons_of_mem _ (List.mem_append_right _ h)) (by decide +kernel))
set_option maxRecDepth 20000 in
theorem gL_score_X4_score : GoodIn wsL_score (wsV RL 78 RX4 yX4_score wsX4_score) := goodIn_app (goodIn_of _ (by decide +kernel)) ggL_score_X4_score
theorem dL_score_0 : decode cL_score 0 = .ok (.aload_n 2, 1) := by decide +kernel
theorem dL_score_1 : decode cL_score 1 = .ok (.iconst 0, 1) := by decide +kernel
theorem dL_score_2 : decode cL_score 2 = .ok (.aload_n 0, 1) := by decide +kernel
theorem dL_score_3 : decode cL_score 3 = .ok (.iload_n 1, 1) := by decide +kernel
theorem dL_score_4 : decode cL_score 4 = .ok (.invokevirtual 78, 3) := by decide +kernel
theorem dL_score_7 : decode cL_score 7 = .ok (.i2l, 1) := by decide +kernel
theorem dL_score_8 : decode cL_score 8 = .ok (.lastore, 1) := by decide +kernel
theorem dL_score_9 : decode cL_score 9 = .ok (.goto 6, 3) := by decide +kernel
theorem dL_score_12 : decode cL_score 12 = .ok (.astore_n 3, 1) := by decide +kernel
theorem dL_score_13 : decode cL_score 13 = .ok (.iconst 1, 1) := by decide +kernel
theorem dL_score_14 : decode cL_score 14 = .ok (.ireturn, 1) := by decide +kernel
theorem dL_score_15 : decode cL_score 15 = .ok (.iconst 0, 1) := by decide +kernel
theorem dL_score_16 : decode cL_score 16 = .ok (.ireturn, 1) := by decide +kernel
