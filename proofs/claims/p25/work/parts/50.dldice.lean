theorem dL_dice_0 : decode cL_dice 0 = .ok (.iload_n 1, 1) := by decide +kernel
theorem dL_dice_1 : decode cL_dice 1 = .ok (.aload_n 0, 1) := by decide +kernel
theorem dL_dice_2 : decode cL_dice 2 = .ok (.arraylength, 1) := by decide +kernel
theorem dL_dice_3 : decode cL_dice 3 = .ok (.if_icmp .ge 9, 3) := by decide +kernel
theorem dL_dice_6 : decode cL_dice 6 = .ok (.aload_n 0, 1) := by decide +kernel
theorem dL_dice_7 : decode cL_dice 7 = .ok (.iload_n 1, 1) := by decide +kernel
theorem dL_dice_8 : decode cL_dice 8 = .ok (.iaload, 1) := by decide +kernel
theorem dL_dice_9 : decode cL_dice 9 = .ok (.goto 22, 3) := by decide +kernel
theorem dL_dice_12 : decode cL_dice 12 = .ok (.ldc 7, 2) := by decide +kernel
theorem dL_dice_14 : decode cL_dice 14 = .ok (.iload_n 1, 1) := by decide +kernel
theorem dL_dice_15 : decode cL_dice 15 = .ok (.bipush 71, 2) := by decide +kernel
theorem dL_dice_17 : decode cL_dice 17 = .ok (.iadd, 1) := by decide +kernel
theorem dL_dice_18 : decode cL_dice 18 = .ok (.imul, 1) := by decide +kernel
theorem dL_dice_19 : decode cL_dice 19 = .ok (.sipush 455, 3) := by decide +kernel
theorem dL_dice_22 : decode cL_dice 22 = .ok (.iload_n 1, 1) := by decide +kernel
theorem dL_dice_23 : decode cL_dice 23 = .ok (.imul, 1) := by decide +kernel
theorem dL_dice_24 : decode cL_dice 24 = .ok (.iload_n 1, 1) := by decide +kernel
theorem dL_dice_25 : decode cL_dice 25 = .ok (.imul, 1) := by decide +kernel
theorem dL_dice_26 : decode cL_dice 26 = .ok (.iadd, 1) := by decide +kernel
theorem dL_dice_27 : decode cL_dice 27 = .ok (.sipush 8009, 3) := by decide +kernel
theorem dL_dice_30 : decode cL_dice 30 = .ok (.iadd, 1) := by decide +kernel
theorem dL_dice_31 : decode cL_dice 31 = .ok (.ldc 8, 2) := by decide +kernel
theorem dL_dice_33 : decode cL_dice 33 = .ok (.iand, 1) := by decide +kernel
theorem dL_dice_34 : decode cL_dice 34 = .ok (.ireturn, 1) := by decide +kernel
set_option maxRecDepth 20000 in
theorem ggL_desk_X4_setProduct : GoodIn wsL_desk wsX4_setProduct := goodIn_ca (goodIn_r _ [9, 10, 11, 12, 13, 14, 15, 16, 17, 18, 8, 19, 20, 21, 22, 23, 137, 138, 139, 140, 141, 142, 143, 144, 145, 146] (by decide +kernel) (by decide +kernel)) (goodIn_sub (fun _ h => List.mem_cons_of_mem _ (List.mem_append_left _ (List.mem_append_right _ h))) (by decide +kernel))
set_option maxRecDepth 20000 in
theorem gL_desk_X4_setProduct : GoodIn wsL_desk (wsV RL 9 RX4 yX4_setProduct wsX4_setProduct) := goodIn_app (goodIn_of _ (by decide +kernel)) ggL_desk_X4_setProduct
set_option maxRecDepth 20000 in
theorem ggL_desk_X4_pass : GoodIn wsL_desk wsX4_pass := goodIn_ca (goodIn_ca (goodIn_r _ [27, 10, 11, 28, 29, 30, 12, 141, 142, 143, 144, 145, 146] (by decide +kernel) (by decide +kernel)) (goodIn_sub (fun _ h => List.mem_cons_of_mem _ (List.mem_append_left _ (List.mem_append_right _ h))) (by decide +kernel))) (goodIn_sub (fun _ h => List.mem_cons_of_mem _ (List.mem_append_right _ h)) (by decide +kernel))
set_option maxRecDepth 20000 in
theorem gL_desk_X4_pass : GoodIn wsL_desk (wsV RL 15 RX4 yX4_pass wsX4_pass) := goodIn_app (goodIn_of _ (by decide +kernel)) ggL_desk_X4_pass
set_option maxRecDepth 20000 in
theorem ggL_desk_X4_open : GoodIn wsL_desk wsX4_open := goodIn_ca (goodIn_ca (goodIn_r _ [34, 10, 11, 28, 29, 35, 36, 37, 38, 39, 40, 41, 8, 42, 43, 44, 45, 46, 47, 48, 49, 50, 51, 52, 53, 54, 55, 56, 57, 58, 59, 60, 61, 62, 63, 147, 148, 149, 150, 151, 152, 153, 154, 155, 141, 142, 143, 144, 145, 146] (by decide +kernel) (by decide +kernel)) (goodIn_sub (fun _ h => List.mem_cons_of_mem _ (List.mem_append_left _ (List.mem_append_right _ h))) (by decide +kernel))) (goodIn_sub (fun _ h => List.mem_cons_of_mem _ (List.mem_append_right _ h)) (by decide +kernel))
set_option maxRecDepth 20000 in
theorem gL_desk_X4_open : GoodIn wsL_desk (wsV RL 19 RX4 yX4_open wsX4_open) := goodIn_app (goodIn_of _ (by decide +kernel)) ggL_desk_X4_open
set_option maxRecDepth 20000 in
theorem ggL_desk_X4_bestOption : GoodIn wsL_desk wsX4_bestOption := goodIn_ca (goodIn_r _ [67, 10, 11, 16, 17, 18, 8, 19, 20, 68, 69, 70, 71, 72, 73, 74, 75, 76, 77, 78, 79, 80, 81, 82, 83, 84, 85, 86, 87, 88, 89, 90, 91, 92, 93, 94, 95, 96, 97, 98, 99, 100, 101, 141, 142, 143, 144, 145, 146, 137, 138, 139, 140] (by decide +kernel) (by decide +kernel)) (goodIn_sub (fun _ h => List.mem_cons_of_mem _ (List.mem_append_left _ (List.mem_append_right _ h))) (by decide +kernel))
set_option maxRecDepth 20000 in
theorem gL_desk_X4_bestOption : GoodIn wsL_desk (wsV RL 22 RX4 yX4_bestOption wsX4_bestOption) := goodIn_app (goodIn_of _ (by decide +kernel)) ggL_desk_X4_bestOption
set_option maxRecDepth 20000 in
theorem ggL_desk_X4_bestWorth : GoodIn wsL_desk wsX4_bestWorth := goodIn_ca (goodIn_r _ [105, 10, 11, 16, 17, 18, 8, 19, 20, 68, 69, 70, 71, 72, 73, 74, 75, 76, 77, 78, 79, 80, 81, 82, 83, 84, 85, 86, 87, 88, 89, 90, 91, 92, 93, 94, 95, 96, 97, 98, 99, 100, 101, 106, 141, 142, 143, 144, 145, 146, 137, 138, 139, 140] (by decide +kernel) (by decide +kernel)) (goodIn_sub (fun _ h => List.mem_cons_of_mem _ (List.mem_append_left _ (List.mem_append_right _ h))) (by decide +kernel))
set_option maxRecDepth 20000 in
theorem gL_desk_X4_bestWorth : GoodIn wsL_desk (wsV RL 26 RX4 yX4_bestWorth wsX4_bestWorth) := goodIn_app (goodIn_of _ (by decide +kernel)) ggL_desk_X4_bestWorth
set_option maxRecDepth 20000 in
theorem ggL_desk_X4_stock : GoodIn wsL_desk wsX4_stock := goodIn_ca (goodIn_r _ [110, 10, 11, 16, 17, 18, 8, 19, 20, 111, 112, 113, 74, 114, 115, 141, 142, 143, 144, 145, 146, 137, 138, 139, 140] (by decide +kernel) (by decide +kernel)) (goodIn_sub (fun _ h => List.mem_cons_of_mem _ (List.mem_append_left _ (List.mem_append_right _ h))) (by decide +kernel))
set_option maxRecDepth 20000 in
theorem gL_desk_X4_stock : GoodIn wsL_desk (wsV RL 29 RX4 yX4_stock wsX4_stock) := goodIn_app (goodIn_of _ (by decide +kernel)) ggL_desk_X4_stock
set_option maxRecDepth 20000 in
theorem ggL_desk_X4_test : GoodIn wsL_desk wsX4_test := goodIn_ca (goodIn_ca (goodIn_r _ [119, 10, 11, 28, 29, 16, 17, 18, 8, 19, 20, 111, 112, 113, 74, 114, 115, 71, 72, 73, 75, 76, 77, 78, 79, 80, 81, 82, 83, 84, 85, 86, 87, 88, 89, 90, 91, 92, 93, 94, 95, 96, 97, 98, 99, 100, 101, 120, 121, 122, 123, 141, 142, 143, 144, 145, 146, 137, 138, 139, 140] (by decide +kernel) (by decide +kernel)) (goodIn_sub (fun _ h => List.mem_cons_of_mem _ (List.mem_append_left _ (List.mem_append_right _ h))) (by decide +kernel))) (goodIn_sub (fun _ h => List.mem_cons_of_mem _ (List.mem_append_right _ h)) (by decide +kernel))
set_option maxRecDepth 20000 in
theorem gL_desk_X4_test : GoodIn wsL_desk (wsV RL 32 RX4 yX4_test wsX4_test) := goodIn_app (goodIn_of _ (by decide +kernel)) ggL_desk_X4_test
set_option maxRecDepth 20000 in
theorem ggL_desk_X4_score : GoodIn wsL_desk wsX4_score := goodIn_ca (goodIn_r _ [127, 10, 11, 30, 39, 40, 41, 8, 42, 43, 128, 129, 130, 131, 132, 133, 134, 135, 136, 141, 142, 143, 144, 145, 146, 156, 157, 158, 159] (by decide +kernel) (by decide +kernel)) (goodIn_sub (fun _ h => List.mem_cons_of_mem _ (List.mem_append_left _ (List.mem_append_right _ h))) (by decide +kernel))
set_option maxRecDepth 20000 in
theorem gL_desk_X4_score : GoodIn wsL_desk (wsV RL 36 RX4 yX4_score wsX4_score) := goodIn_app (goodIn_of _ (by decide +kernel)) ggL_desk_X4_score
theorem dL_desk_0 : decode cL_desk 0 = .ok (.iload_n 1, 1) := by decide +kernel
theorem dL_desk_1 : decode cL_desk 1 = .ok (.ifCond .ne 16, 3) := by decide +kernel
theorem dL_desk_4 : decode cL_desk 4 = .ok (.aload_n 0, 1) := by decide +kernel
theorem dL_desk_5 : decode cL_desk 5 = .ok (.iload_n 2, 1) := by decide +kernel
theorem dL_desk_6 : decode cL_desk 6 = .ok (.iload_n 3, 1) := by decide +kernel
theorem dL_desk_7 : decode cL_desk 7 = .ok (.iload 4, 2) := by decide +kernel
theorem dL_desk_9 : decode cL_desk 9 = .ok (.iload 5, 2) := by decide +kernel
theorem dL_desk_11 : decode cL_desk 11 = .ok (.invokevirtual 9, 3) := by decide +kernel
theorem dL_desk_14 : decode cL_desk 14 = .ok (.goto 100, 3) := by decide +kernel
theorem dL_desk_17 : decode cL_desk 17 = .ok (.iload_n 1, 1) := by decide +kernel
theorem dL_desk_18 : decode cL_desk 18 = .ok (.iconst 1, 1) := by decide +kernel
theorem dL_desk_19 : decode cL_desk 19 = .ok (.if_icmp .ne 11, 3) := by decide +kernel
theorem dL_desk_22 : decode cL_desk 22 = .ok (.aload_n 0, 1) := by decide +kernel
theorem dL_desk_23 : decode cL_desk 23 = .ok (.iload_n 2, 1) := by decide +kernel
theorem dL_desk_24 : decode cL_desk 24 = .ok (.invokevirtual 15, 3) := by decide +kernel
theorem dL_desk_27 : decode cL_desk 27 = .ok (.goto 87, 3) := by decide +kernel
theorem dL_desk_30 : decode cL_desk 30 = .ok (.iload_n 1, 1) := by decide +kernel
theorem dL_desk_31 : decode cL_desk 31 = .ok (.iconst 2, 1) := by decide +kernel
theorem dL_desk_32 : decode cL_desk 32 = .ok (.if_icmp .ne 11, 3) := by decide +kernel
theorem dL_desk_35 : decode cL_desk 35 = .ok (.aload_n 0, 1) := by decide +kernel
theorem dL_desk_36 : decode cL_desk 36 = .ok (.iload_n 2, 1) := by decide +kernel
theorem dL_desk_37 : decode cL_desk 37 = .ok (.invokevirtual 19, 3) := by decide +kernel
theorem dL_desk_40 : decode cL_desk 40 = .ok (.goto 74, 3) := by decide +kernel
theorem dL_desk_43 : decode cL_desk 43 = .ok (.iload_n 1, 1) := by decide +kernel
theorem dL_desk_44 : decode cL_desk 44 = .ok (.iconst 3, 1) := by decide +kernel
theorem dL_desk_45 : decode cL_desk 45 = .ok (.if_icmp .ne 12, 3) := by decide +kernel
theorem dL_desk_48 : decode cL_desk 48 = .ok (.aload_n 0, 1) := by decide +kernel
theorem dL_desk_49 : decode cL_desk 49 = .ok (.iload_n 2, 1) := by decide +kernel
theorem dL_desk_50 : decode cL_desk 50 = .ok (.iload_n 3, 1) := by decide +kernel
theorem dL_desk_51 : decode cL_desk 51 = .ok (.invokevirtual 22, 3) := by decide +kernel
theorem dL_desk_54 : decode cL_desk 54 = .ok (.goto 60, 3) := by decide +kernel
theorem dL_desk_57 : decode cL_desk 57 = .ok (.iload_n 1, 1) := by decide +kernel
theorem dL_desk_58 : decode cL_desk 58 = .ok (.iconst 4, 1) := by decide +kernel
theorem dL_desk_59 : decode cL_desk 59 = .ok (.if_icmp .ne 12, 3) := by decide +kernel
theorem dL_desk_62 : decode cL_desk 62 = .ok (.aload_n 0, 1) := by decide +kernel
theorem dL_desk_63 : decode cL_desk 63 = .ok (.iload_n 2, 1) := by decide +kernel
theorem dL_desk_64 : decode cL_desk 64 = .ok (.iload_n 3, 1) := by decide +kernel
theorem dL_desk_65 : decode cL_desk 65 = .ok (.invokevirtual 26, 3) := by decide +kernel
theorem dL_desk_68 : decode cL_desk 68 = .ok (.goto 46, 3) := by decide +kernel
theorem dL_desk_71 : decode cL_desk 71 = .ok (.iload_n 1, 1) := by decide +kernel
theorem dL_desk_72 : decode cL_desk 72 = .ok (.iconst 5, 1) := by decide +kernel
theorem dL_desk_73 : decode cL_desk 73 = .ok (.if_icmp .ne 12, 3) := by decide +kernel
theorem dL_desk_76 : decode cL_desk 76 = .ok (.aload_n 0, 1) := by decide +kernel
theorem dL_desk_77 : decode cL_desk 77 = .ok (.iload_n 2, 1) := by decide +kernel
theorem dL_desk_78 : decode cL_desk 78 = .ok (.iload_n 3, 1) := by decide +kernel
theorem dL_desk_79 : decode cL_desk 79 = .ok (.invokevirtual 29, 3) := by decide +kernel
theorem dL_desk_82 : decode cL_desk 82 = .ok (.goto 32, 3) := by decide +kernel
theorem dL_desk_85 : decode cL_desk 85 = .ok (.iload_n 1, 1) := by decide +kernel
theorem dL_desk_86 : decode cL_desk 86 = .ok (.bipush 6, 2) := by decide +kernel
theorem dL_desk_88 : decode cL_desk 88 = .ok (.if_icmp .ne 21, 3) := by decide +kernel
theorem dL_desk_91 : decode cL_desk 91 = .ok (.aload_n 0, 1) := by decide +kernel
theorem dL_desk_92 : decode cL_desk 92 = .ok (.iload_n 2, 1) := by decide +kernel
theorem dL_desk_93 : decode cL_desk 93 = .ok (.iload_n 3, 1) := by decide +kernel
theorem dL_desk_94 : decode cL_desk 94 = .ok (.iconst 1, 1) := by decide +kernel
theorem dL_desk_95 : decode cL_desk 95 = .ok (.if_icmp .ne 7, 3) := by decide +kernel
theorem dL_desk_98 : decode cL_desk 98 = .ok (.iconst 1, 1) := by decide +kernel
theorem dL_desk_99 : decode cL_desk 99 = .ok (.goto 4, 3) := by decide +kernel
theorem dL_desk_102 : decode cL_desk 102 = .ok (.iconst 0, 1) := by decide +kernel
theorem dL_desk_103 : decode cL_desk 103 = .ok (.invokevirtual 32, 3) := by decide +kernel
theorem dL_desk_106 : decode cL_desk 106 = .ok (.goto 8, 3) := by decide +kernel
theorem dL_desk_109 : decode cL_desk 109 = .ok (.aload_n 0, 1) := by decide +kernel
theorem dL_desk_110 : decode cL_desk 110 = .ok (.iload_n 2, 1) := by decide +kernel
theorem dL_desk_111 : decode cL_desk 111 = .ok (.invokevirtual 36, 3) := by decide +kernel
theorem dL_desk_114 : decode cL_desk 114 = .ok (.ireturn, 1) := by decide +kernel
theorem dL_desk_115 : decode cL_desk 115 = .ok (.astore 6, 2) := by decide +kernel
theorem dL_desk_117 : decode cL_desk 117 = .ok (.ldc 41, 2) := by decide +kernel
theorem dL_desk_119 : decode cL_desk 119 = .ok (.ireturn, 1) := by decide +kernel
theorem dL_desk_120 : decode cL_desk 120 = .ok (.astore 6, 2) := by decide +kernel
theorem dL_desk_122 : decode cL_desk 122 = .ok (.ldc 44, 2) := by decide +kernel
theorem dL_desk_124 : decode cL_desk 124 = .ok (.ireturn, 1) := by decide +kernel
set_option maxRecDepth 20000 in
theorem ggL_add_X4_add : GoodIn wsL_add wsX4_add := goodIn_ca (goodIn_ca (goodIn_ca (goodIn_r _ [11, 12, 13, 14, 15, 16, 17, 18, 19, 20, 21, 22, 23, 10, 24, 25, 26, 27, 28, 29, 30, 31, 32, 33, 34, 35, 36, 37, 38, 39, 40, 41, 42, 43, 44, 45, 46, 47, 48, 49, 50, 51, 52, 53, 54, 55, 56, 57, 58, 59, 60, 61, 62, 63, 64, 65, 66, 67, 68, 69, 70, 71, 72, 73, 74, 75, 76, 77, 78, 79] (by decide +kernel) (by decide +kernel)) (goodIn_sub (fun _ h => List.mem_cons_of_mem _ (List.mem_append_left _ (List.mem_append_left _ (List.mem_append_right _ h)))) (by decide +kernel))) (goodIn_sub (fun _ h => List.mem_cons_of_mem _ (List.mem_append_left _ (List.mem_append_right _ h))) (by decide +kernel))) (goodIn_sub (fun _ h => List.mem_cons_of_mem _ (List.mem_append_right _ h)) (by decide +kernel))
set_option maxRecDepth 20000 in
theorem gL_add_X4_add : GoodIn wsL_add (wsV RL 45 RX4 yX4_add wsX4_add) := goodIn_app (goodIn_of _ (by decide +kernel)) ggL_add_X4_add
theorem dL_add_0 : decode cL_add 0 = .ok (.aload_n 0, 1) := by decide +kernel
theorem dL_add_1 : decode cL_add 1 = .ok (.iload_n 1, 1) := by decide +kernel
theorem dL_add_2 : decode cL_add 2 = .ok (.iload_n 2, 1) := by decide +kernel
theorem dL_add_3 : decode cL_add 3 = .ok (.iload_n 3, 1) := by decide +kernel
theorem dL_add_4 : decode cL_add 4 = .ok (.invokevirtual 45, 3) := by decide +kernel
theorem dL_add_7 : decode cL_add 7 = .ok (.ireturn, 1) := by decide +kernel
theorem dL_add_8 : decode cL_add 8 = .ok (.astore 4, 2) := by decide +kernel
theorem dL_add_10 : decode cL_add 10 = .ok (.ldc 51, 2) := by decide +kernel
theorem dL_add_12 : decode cL_add 12 = .ok (.ireturn, 1) := by decide +kernel
theorem dL_add_13 : decode cL_add 13 = .ok (.astore 4, 2) := by decide +kernel
theorem dL_add_15 : decode cL_add 15 = .ok (.ldc 41, 2) := by decide +kernel
theorem dL_add_17 : decode cL_add 17 = .ok (.ireturn, 1) := by decide +kernel
theorem dL_add_18 : decode cL_add 18 = .ok (.astore 4, 2) := by decide +kernel
theorem dL_add_20 : decode cL_add 20 = .ok (.ldc 44, 2) := by decide +kernel
theorem dL_add_22 : decode cL_add 22 = .ok (.ireturn, 1) := by decide +kernel
set_option maxRecDepth 20000 in
theorem ggL_pay_X4_pay : GoodIn wsL_pay wsX4_pay := goodIn_ca (goodIn_ca (goodIn_r _ [9, 10, 11, 12, 13, 14, 15, 16, 17, 18, 8, 19, 20, 21, 22, 23, 24, 25, 26, 27, 28, 29, 30, 31, 32, 33, 34, 35, 36, 37, 38, 39, 40, 41, 42, 43, 44, 45, 46, 47, 48, 49, 50, 51, 52, 53, 54, 55, 56, 57, 58, 59, 60, 61, 62, 63, 64, 65, 66, 67, 68, 69, 70, 71] (by decide +kernel) (by decide +kernel)) (goodIn_sub (fun _ h => List.mem_cons_of_mem _ (List.mem_append_left _ (List.mem_append_right _ h))) (by decide +kernel))) (goodIn_sub (fun _ h => List.mem_cons_of_mem _ (List.mem_append_right _ h)) (by decide +kernel))
set_option maxRecDepth 20000 in
theorem gL_pay_X4_pay : GoodIn wsL_pay (wsV RL 52 RX4 yX4_pay wsX4_pay) := goodIn_app (goodIn_of _ (by decide +kernel)) ggL_pay_X4_pay
theorem dL_pay_0 : decode cL_pay 0 = .ok (.aload_n 0, 1) := by decide +kernel
theorem dL_pay_1 : decode cL_pay 1 = .ok (.iload_n 1, 1) := by decide +kernel
theorem dL_pay_2 : decode cL_pay 2 = .ok (.invokevirtual 52, 3) := by decide +kernel
theorem dL_pay_5 : decode cL_pay 5 = .ok (.ireturn, 1) := by decide +kernel
theorem dL_pay_6 : decode cL_pay 6 = .ok (.astore_n 2, 1) := by decide +kernel
theorem dL_pay_7 : decode cL_pay 7 = .ok (.ldc 51, 2) := by decide +kernel
theorem dL_pay_9 : decode cL_pay 9 = .ok (.ireturn, 1) := by decide +kernel
theorem dL_pay_10 : decode cL_pay 10 = .ok (.astore_n 2, 1) := by decide +kernel
theorem dL_pay_11 : decode cL_pay 11 = .ok (.ldc 44, 2) := by decide +kernel
theorem dL_pay_13 : decode cL_pay 13 = .ok (.ireturn, 1) := by decide +kernel
set_option maxRecDepth 20000 in
theorem ggL_of_X4_paid : GoodIn wsL_of wsX4_paid := goodIn_ca (goodIn_r _ [7, 8, 9, 10, 11, 6, 12, 13, 14, 15, 16, 17, 18, 19, 94, 95, 96, 97, 98, 99, 100, 101, 102, 103, 104, 105, 106, 107, 108] (by decide +kernel) (by decide +kernel)) (goodIn_sub (fun _ h => List.mem_cons_of_mem _ (List.mem_append_right _ h)) (by decide +kernel))
set_option maxRecDepth 20000 in
theorem gL_of_X4_paid : GoodIn wsL_of (wsV RL 55 RX4 yX4_paid wsX4_paid) := goodIn_app (goodIn_of _ (by decide +kernel)) ggL_of_X4_paid
set_option maxRecDepth 20000 in
theorem ggL_of_X4_keptValue : GoodIn wsL_of wsX4_keptValue := goodIn_ca (goodIn_r _ [23, 9, 10, 11, 6, 12, 13, 14, 15, 16, 17, 18, 19, 24, 25, 26, 27, 28, 29, 30, 31, 32, 33, 34, 35, 36, 37, 38, 39, 40, 41, 42, 103, 104, 105, 106, 107, 108, 94, 95, 96, 97, 98, 99, 100, 101, 102, 109, 110, 111, 112] (by decide +kernel) (by decide +kernel)) (goodIn_sub (fun _ h => List.mem_cons_of_mem _ (List.mem_append_right _ h)) (by decide +kernel))
set_option maxRecDepth 20000 in
theorem gL_of_X4_keptValue : GoodIn wsL_of (wsV RL 58 RX4 yX4_keptValue wsX4_keptValue) := goodIn_app (goodIn_of _ (by decide +kernel)) ggL_of_X4_keptValue
set_option maxRecDepth 20000 in
theorem ggL_of_X4_released : GoodIn wsL_of wsX4_released := goodIn_ca (goodIn_r _ [46, 47, 9, 10, 11, 6, 12, 13, 14, 15, 16, 17, 18, 19, 94, 95, 96, 97, 98, 99, 100, 101, 102, 103, 104, 105, 106, 107, 108] (by decide +kernel) (by decide +kernel)) (goodIn_sub (fun _ h => List.mem_cons_of_mem _ (List.mem_append_right _ h)) (by decide +kernel))
set_option maxRecDepth 20000 in
theorem gL_of_X4_released : GoodIn wsL_of (wsV RL 61 RX4 yX4_released wsX4_released) := goodIn_app (goodIn_of _ (by decide +kernel)) ggL_of_X4_released
set_option maxRecDepth 20000 in
theorem ggL_of_X4_firstSale : GoodIn wsL_of wsX4_firstSale := goodIn_ca (goodIn_r _ [51, 52, 9, 10, 11, 6, 12, 13, 14, 15, 16, 17, 18, 19, 94, 95, 96, 97, 98, 99, 100, 101, 102, 103, 104, 105, 106, 107, 108] (by decide +kernel) (by decide +kernel)) (goodIn_sub (fun _ h => List.mem_cons_of_mem _ (List.mem_append_right _ h)) (by decide +kernel))
set_option maxRecDepth 20000 in
theorem gL_of_X4_firstSale : GoodIn wsL_of (wsV RL 64 RX4 yX4_firstSale wsX4_firstSale) := goodIn_app (goodIn_of _ (by decide +kernel)) ggL_of_X4_firstSale
set_option maxRecDepth 20000 in
theorem ggL_of_X4_exchanges : GoodIn wsL_of wsX4_exchanges := goodIn_ca (goodIn_r _ [56, 57, 9, 10, 11, 6, 12, 13, 14, 15, 16, 17, 18, 19, 94, 95, 96, 97, 98, 99, 100, 101, 102, 103, 104, 105, 106, 107, 108] (by decide +kernel) (by decide +kernel)) (goodIn_sub (fun _ h => List.mem_cons_of_mem _ (List.mem_append_right _ h)) (by decide +kernel))
set_option maxRecDepth 20000 in
theorem gL_of_X4_exchanges : GoodIn wsL_of (wsV RL 67 RX4 yX4_exchanges wsX4_exchanges) := goodIn_app (goodIn_of _ (by decide +kernel)) ggL_of_X4_exchanges
set_option maxRecDepth 20000 in
theorem ggL_of_X4_kept : GoodIn wsL_of wsX4_kept := goodIn_ca (goodIn_r _ [61, 62, 63, 64, 65, 6, 66, 13, 14, 9, 10, 11, 12, 15, 16, 17, 18, 19, 67, 68, 69, 27, 70, 29, 109, 110, 111, 112, 103, 104, 105, 106, 107, 108, 94, 95, 96, 97, 98, 99, 100, 101, 102] (by decide +kernel) (by decide +kernel)) (goodIn_sub (fun _ h => List.mem_cons_of_mem _ (List.mem_append_right _ h)) (by decide +kernel))
set_option maxRecDepth 20000 in
theorem gL_of_X4_kept : GoodIn wsL_of (wsV RL 70 RX4 yX4_kept wsX4_kept) := goodIn_app (goodIn_of _ (by decide +kernel)) ggL_of_X4_kept
set_option maxRecDepth 20000 in
theorem ggL_of_X4_lineValue : GoodIn wsL_of wsX4_lineValue := goodIn_ca (goodIn_r _ [74, 13, 14, 9, 10, 11, 6, 12, 15, 16, 17, 18, 19, 67, 68, 69, 27, 70, 29, 75, 76, 77, 78, 79, 25, 26, 28, 30, 31, 32, 33, 34, 35, 36, 38, 39, 40, 41, 42, 80, 81, 82, 83, 84, 85, 86, 87, 88, 89, 90, 91, 92, 93, 103, 104, 105, 106, 107, 108, 94, 95, 96, 97, 98, 99, 100, 101, 102, 109, 110, 111, 112] (by decide +kernel) (by decide +kernel)) (goodIn_sub (fun _ h => List.mem_cons_of_mem _ (List.mem_append_right _ h)) (by decide +kernel))
set_option maxRecDepth 20000 in
theorem gL_of_X4_lineValue : GoodIn wsL_of (wsV RL 73 RX4 yX4_lineValue wsX4_lineValue) := goodIn_app (goodIn_of _ (by decide +kernel)) ggL_of_X4_lineValue
theorem dL_of_0 : decode cL_of 0 = .ok (.iload_n 1, 1) := by decide +kernel
theorem dL_of_1 : decode cL_of 1 = .ok (.ifCond .ne 11, 3) := by decide +kernel
theorem dL_of_4 : decode cL_of 4 = .ok (.aload_n 0, 1) := by decide +kernel
theorem dL_of_5 : decode cL_of 5 = .ok (.iload_n 2, 1) := by decide +kernel
theorem dL_of_6 : decode cL_of 6 = .ok (.invokevirtual 55, 3) := by decide +kernel
theorem dL_of_9 : decode cL_of 9 = .ok (.goto 75, 3) := by decide +kernel
theorem dL_of_12 : decode cL_of 12 = .ok (.iload_n 1, 1) := by decide +kernel
theorem dL_of_13 : decode cL_of 13 = .ok (.iconst 1, 1) := by decide +kernel
theorem dL_of_14 : decode cL_of 14 = .ok (.if_icmp .ne 11, 3) := by decide +kernel
theorem dL_of_17 : decode cL_of 17 = .ok (.aload_n 0, 1) := by decide +kernel
theorem dL_of_18 : decode cL_of 18 = .ok (.iload_n 2, 1) := by decide +kernel
theorem dL_of_19 : decode cL_of 19 = .ok (.invokevirtual 58, 3) := by decide +kernel
theorem dL_of_22 : decode cL_of 22 = .ok (.goto 62, 3) := by decide +kernel
theorem dL_of_25 : decode cL_of 25 = .ok (.iload_n 1, 1) := by decide +kernel
theorem dL_of_26 : decode cL_of 26 = .ok (.iconst 2, 1) := by decide +kernel
theorem dL_of_27 : decode cL_of 27 = .ok (.if_icmp .ne 11, 3) := by decide +kernel
theorem dL_of_30 : decode cL_of 30 = .ok (.aload_n 0, 1) := by decide +kernel
theorem dL_of_31 : decode cL_of 31 = .ok (.iload_n 2, 1) := by decide +kernel
theorem dL_of_32 : decode cL_of 32 = .ok (.invokevirtual 61, 3) := by decide +kernel
theorem dL_of_35 : decode cL_of 35 = .ok (.goto 49, 3) := by decide +kernel
theorem dL_of_38 : decode cL_of 38 = .ok (.iload_n 1, 1) := by decide +kernel
theorem dL_of_39 : decode cL_of 39 = .ok (.iconst 3, 1) := by decide +kernel
theorem dL_of_40 : decode cL_of 40 = .ok (.if_icmp .ne 11, 3) := by decide +kernel
theorem dL_of_43 : decode cL_of 43 = .ok (.aload_n 0, 1) := by decide +kernel
theorem dL_of_44 : decode cL_of 44 = .ok (.iload_n 2, 1) := by decide +kernel
theorem dL_of_45 : decode cL_of 45 = .ok (.invokevirtual 64, 3) := by decide +kernel
theorem dL_of_48 : decode cL_of 48 = .ok (.goto 36, 3) := by decide +kernel
theorem dL_of_51 : decode cL_of 51 = .ok (.iload_n 1, 1) := by decide +kernel
theorem dL_of_52 : decode cL_of 52 = .ok (.iconst 4, 1) := by decide +kernel
theorem dL_of_53 : decode cL_of 53 = .ok (.if_icmp .ne 11, 3) := by decide +kernel
theorem dL_of_56 : decode cL_of 56 = .ok (.aload_n 0, 1) := by decide +kernel
theorem dL_of_57 : decode cL_of 57 = .ok (.iload_n 2, 1) := by decide +kernel
theorem dL_of_58 : decode cL_of 58 = .ok (.invokevirtual 67, 3) := by decide +kernel
theorem dL_of_61 : decode cL_of 61 = .ok (.goto 23, 3) := by decide +kernel
theorem dL_of_64 : decode cL_of 64 = .ok (.iload_n 1, 1) := by decide +kernel
theorem dL_of_65 : decode cL_of 65 = .ok (.iconst 5, 1) := by decide +kernel
theorem dL_of_66 : decode cL_of 66 = .ok (.if_icmp .ne 12, 3) := by decide +kernel
theorem dL_of_69 : decode cL_of 69 = .ok (.aload_n 0, 1) := by decide +kernel
theorem dL_of_70 : decode cL_of 70 = .ok (.iload_n 2, 1) := by decide +kernel
theorem dL_of_71 : decode cL_of 71 = .ok (.iload_n 3, 1) := by decide +kernel
theorem dL_of_72 : decode cL_of 72 = .ok (.invokevirtual 70, 3) := by decide +kernel
theorem dL_of_75 : decode cL_of 75 = .ok (.goto 9, 3) := by decide +kernel
theorem dL_of_78 : decode cL_of 78 = .ok (.aload_n 0, 1) := by decide +kernel
theorem dL_of_79 : decode cL_of 79 = .ok (.iload_n 2, 1) := by decide +kernel
theorem dL_of_80 : decode cL_of 80 = .ok (.iload_n 3, 1) := by decide +kernel
theorem dL_of_81 : decode cL_of 81 = .ok (.invokevirtual 73, 3) := by decide +kernel
theorem dL_of_84 : decode cL_of 84 = .ok (.ireturn, 1) := by decide +kernel
theorem dL_of_85 : decode cL_of 85 = .ok (.astore 4, 2) := by decide +kernel
theorem dL_of_87 : decode cL_of 87 = .ok (.ldc 51, 2) := by decide +kernel
theorem dL_of_89 : decode cL_of 89 = .ok (.ireturn, 1) := by decide +kernel
set_option maxRecDepth 20000 in
theorem ggL_back_X4_giveBack : GoodIn wsL_back wsX4_giveBack := goodIn_ca (goodIn_ca (goodIn_ca (goodIn_r _ [11, 12, 13, 14, 15, 16, 17, 18, 19, 20, 10, 21, 22, 23, 24, 25, 26, 27, 28, 29, 30, 31, 32, 33, 34, 35, 36, 37, 38, 39, 40, 41, 42, 43, 44, 45, 46, 47, 48, 49, 50, 51, 52, 53, 54, 55, 56, 57, 58, 59, 60, 61, 62, 63, 64, 65, 66, 67, 68, 69, 70, 71, 72, 73, 74, 75, 76, 77, 78, 79, 80, 81, 82, 83, 84, 85, 86, 87, 88, 89, 90, 91, 92, 93, 94, 95, 96, 97, 98, 99, 100, 101, 102, 103, 104, 105, 106, 107, 108, 109, 110, 111, 112, 113, 114, 115, 116, 117, 118, 119, 120, 121, 122, 123, 124, 125, 126, 127, 128, 129, 130, 131, 132, 133, 134, 135, 136, 137, 138, 139, 140, 141, 142, 143, 144, 145, 204, 205, 206, 207, 208, 209, 210, 211, 212, 213, 214, 215, 216, 217, 218, 219, 220, 221, 222, 223, 224, 225, 226, 227, 228, 229, 230] (by decide +kernel) (by decide +kernel)) (goodIn_sub (fun _ h => List.mem_cons_of_mem _ (List.mem_append_left _ (List.mem_append_left _ (List.mem_append_right _ h)))) (by decide +kernel))) (goodIn_sub (fun _ h => List.mem_cons_of_mem _ (List.mem_append_left _ (List.mem_append_right _ h))) (by decide +kernel))) (goodIn_sub (fun _ h => List.mem_cons_of_mem _ (List.mem_append_right _ h)) (by decide +kernel))
set_option maxRecDepth 20000 in
theorem gL_back_X4_giveBack : GoodIn wsL_back (wsV RL 76 RX4 yX4_giveBack wsX4_giveBack) := goodIn_app (goodIn_of _ (by decide +kernel)) ggL_back_X4_giveBack
set_option maxRecDepth 20000 in
theorem ggL_back_X4_exchange : GoodIn wsL_back wsX4_exchange := goodIn_ca (goodIn_ca (goodIn_ca (goodIn_r _ [149, 12, 13, 14, 15, 16, 150, 151, 152, 36, 153, 154, 155, 94, 56, 156, 18, 19, 20, 10, 21, 22, 23, 24, 25, 26, 27, 28, 29, 30, 31, 32, 33, 34, 35, 37, 38, 157, 158, 159, 160, 161, 39, 40, 41, 42, 43, 44, 45, 46, 47, 48, 49, 50, 51, 52, 53, 54, 55, 57, 58, 59, 60, 61, 62, 63, 64, 65, 66, 67, 68, 69, 162, 163, 164, 165, 166, 70, 71, 72, 73, 74, 75, 76, 77, 78, 79, 80, 81, 82, 83, 84, 85, 86, 87, 88, 89, 90, 91, 92, 93, 95, 96, 97, 98, 99, 100, 101, 102, 103, 104, 105, 106, 107, 108, 109, 110, 111, 112, 113, 114, 115, 116, 117, 118, 119, 120, 121, 122, 123, 124, 125, 126, 127, 128, 129, 130, 131, 132, 133, 134, 135, 136, 137, 138, 139, 140, 141, 142, 167, 168, 169, 170, 171, 172, 173, 174, 175, 176, 177, 178, 179, 180, 181, 182, 183, 184, 185, 186, 187, 188, 189, 190, 191, 192, 193, 194, 195, 196, 197, 198, 199, 204, 205, 206, 207, 208, 209, 210, 211, 212, 219, 220, 221, 222, 213, 214, 215, 216, 217, 218, 223, 224, 225, 226, 227, 228, 229, 230] (by decide +kernel) (by decide +kernel)) (goodIn_sub (fun _ h => List.mem_cons_of_mem _ (List.mem_append_left _ (List.mem_append_left _ (List.mem_append_right _ h)))) (by decide +kernel))) (goodIn_sub (fun _ h => List.mem_cons_of_mem _ (List.mem_append_left _ (List.mem_append_right _ h))) (by decide +kernel))) (goodIn_sub (fun _ h => List.mem_cons_of_mem _ (List.mem_append_right _ h)) (by decide +kernel))
set_option maxRecDepth 20000 in
theorem gL_back_X4_exchange : GoodIn wsL_back (wsV RL 79 RX4 yX4_exchange wsX4_exchange) := goodIn_app (goodIn_of _ (by decide +kernel)) ggL_back_X4_exchange
set_option maxRecDepth 20000 in
theorem ggL_back_X4_quote : GoodIn wsL_back wsX4_quote := goodIn_ca (goodIn_ca (goodIn_ca (goodIn_r _ [203, 12, 13, 14, 15, 18, 19, 20, 10, 21, 22, 23, 24, 25, 26, 27, 28, 29, 30, 31, 32, 33, 34, 35, 36, 37, 38, 39, 40, 41, 42, 43, 44, 45, 46, 47, 48, 49, 50, 51, 52, 53, 54, 55, 56, 76, 77, 78, 79, 80, 81, 82, 83, 84, 85, 86, 87, 88, 89, 90, 91, 92, 93, 94, 95, 96, 97, 98, 99, 100, 101, 143, 144, 145, 213, 214, 215, 216, 217, 218, 204, 205, 206, 207, 208, 209, 210, 211, 212, 219, 220, 221, 222] (by decide +kernel) (by decide +kernel)) (goodIn_sub (fun _ h => List.mem_cons_of_mem _ (List.mem_append_left _ (List.mem_append_left _ (List.mem_append_right _ h)))) (by decide +kernel))) (goodIn_sub (fun _ h => List.mem_cons_of_mem _ (List.mem_append_left _ (List.mem_append_right _ h))) (by decide +kernel))) (goodIn_sub (fun _ h => List.mem_cons_of_mem _ (List.mem_append_right _ h)) (by decide +kernel))
set_option maxRecDepth 20000 in
theorem gL_back_X4_quote : GoodIn wsL_back (wsV RL 83 RX4 yX4_quote wsX4_quote) := goodIn_app (goodIn_of _ (by decide +kernel)) ggL_back_X4_quote
theorem dL_back_0 : decode cL_back 0 = .ok (.iload_n 1, 1) := by decide +kernel
theorem dL_back_1 : decode cL_back 1 = .ok (.ifCond .ne 16, 3) := by decide +kernel
theorem dL_back_4 : decode cL_back 4 = .ok (.aload_n 0, 1) := by decide +kernel
theorem dL_back_5 : decode cL_back 5 = .ok (.iload_n 2, 1) := by decide +kernel
theorem dL_back_6 : decode cL_back 6 = .ok (.iload_n 3, 1) := by decide +kernel
theorem dL_back_7 : decode cL_back 7 = .ok (.iload 4, 2) := by decide +kernel
theorem dL_back_9 : decode cL_back 9 = .ok (.iload 5, 2) := by decide +kernel
theorem dL_back_11 : decode cL_back 11 = .ok (.invokevirtual 76, 3) := by decide +kernel
theorem dL_back_14 : decode cL_back 14 = .ok (.goto 33, 3) := by decide +kernel
theorem dL_back_17 : decode cL_back 17 = .ok (.iload_n 1, 1) := by decide +kernel
theorem dL_back_18 : decode cL_back 18 = .ok (.iconst 1, 1) := by decide +kernel
theorem dL_back_19 : decode cL_back 19 = .ok (.if_icmp .ne 18, 3) := by decide +kernel
theorem dL_back_22 : decode cL_back 22 = .ok (.aload_n 0, 1) := by decide +kernel
theorem dL_back_23 : decode cL_back 23 = .ok (.iload_n 2, 1) := by decide +kernel
theorem dL_back_24 : decode cL_back 24 = .ok (.iload_n 3, 1) := by decide +kernel
theorem dL_back_25 : decode cL_back 25 = .ok (.iload 4, 2) := by decide +kernel
theorem dL_back_27 : decode cL_back 27 = .ok (.iload 5, 2) := by decide +kernel
theorem dL_back_29 : decode cL_back 29 = .ok (.iload 6, 2) := by decide +kernel
theorem dL_back_31 : decode cL_back 31 = .ok (.invokevirtual 79, 3) := by decide +kernel
theorem dL_back_34 : decode cL_back 34 = .ok (.goto 13, 3) := by decide +kernel
theorem dL_back_37 : decode cL_back 37 = .ok (.aload_n 0, 1) := by decide +kernel
theorem dL_back_38 : decode cL_back 38 = .ok (.iload_n 2, 1) := by decide +kernel
theorem dL_back_39 : decode cL_back 39 = .ok (.iload_n 3, 1) := by decide +kernel
theorem dL_back_40 : decode cL_back 40 = .ok (.iload 4, 2) := by decide +kernel
theorem dL_back_42 : decode cL_back 42 = .ok (.iload 5, 2) := by decide +kernel
theorem dL_back_44 : decode cL_back 44 = .ok (.invokevirtual 83, 3) := by decide +kernel
theorem dL_back_47 : decode cL_back 47 = .ok (.ireturn, 1) := by decide +kernel
theorem dL_back_48 : decode cL_back 48 = .ok (.astore 7, 2) := by decide +kernel
theorem dL_back_50 : decode cL_back 50 = .ok (.ldc 51, 2) := by decide +kernel
theorem dL_back_52 : decode cL_back 52 = .ok (.ireturn, 1) := by decide +kernel
theorem dL_back_53 : decode cL_back 53 = .ok (.astore 7, 2) := by decide +kernel
theorem dL_back_55 : decode cL_back 55 = .ok (.ldc 41, 2) := by decide +kernel
theorem dL_back_57 : decode cL_back 57 = .ok (.ireturn, 1) := by decide +kernel
theorem dL_back_58 : decode cL_back 58 = .ok (.astore 7, 2) := by decide +kernel
theorem dL_back_60 : decode cL_back 60 = .ok (.ldc 44, 2) := by decide +kernel
theorem dL_back_62 : decode cL_back 62 = .ok (.ireturn, 1) := by decide +kernel
set_option maxRecDepth 20000 in
theorem ggL_units_X4_kept : GoodIn wsL_units wsX4_kept := goodIn_ca (goodIn_r _ [5, 6, 7, 8, 9, 4, 10, 11, 12, 13, 14, 15, 16, 17, 18, 19, 20, 21, 22, 23, 24, 25, 26, 27, 28, 29, 30, 31, 32, 33, 34, 35, 36, 37, 38, 39, 40, 41, 42, 43, 44, 45, 46] (by decide +kernel) (by decide +kernel)) (goodIn_sub (fun _ h => List.mem_cons_of_mem _ (List.mem_append_right _ h)) (by decide +kernel))
set_option maxRecDepth 20000 in
theorem gL_units_X4_kept : GoodIn wsL_units (wsV RL 70 RX4 yX4_kept wsX4_kept) := goodIn_app (goodIn_of _ (by decide +kernel)) ggL_units_X4_kept
theorem dL_units_0 : decode cL_units 0 = .ok (.iconst 0, 1) := by decide +kernel
theorem dL_units_1 : decode cL_units 1 = .ok (.istore_n 3, 1) := by decide +kernel
theorem dL_units_2 : decode cL_units 2 = .ok (.iconst 0, 1) := by decide +kernel
theorem dL_units_3 : decode cL_units 3 = .ok (.istore 4, 2) := by decide +kernel
theorem dL_units_5 : decode cL_units 5 = .ok (.iload 4, 2) := by decide +kernel
theorem dL_units_7 : decode cL_units 7 = .ok (.aload_n 2, 1) := by decide +kernel
theorem dL_units_8 : decode cL_units 8 = .ok (.iload_n 1, 1) := by decide +kernel
theorem dL_units_9 : decode cL_units 9 = .ok (.iaload, 1) := by decide +kernel
theorem dL_units_10 : decode cL_units 10 = .ok (.if_icmp .ge 19, 3) := by decide +kernel
theorem dL_units_13 : decode cL_units 13 = .ok (.iload_n 3, 1) := by decide +kernel
theorem dL_units_14 : decode cL_units 14 = .ok (.aload_n 0, 1) := by decide +kernel
theorem dL_units_15 : decode cL_units 15 = .ok (.iload_n 1, 1) := by decide +kernel
theorem dL_units_16 : decode cL_units 16 = .ok (.iload 4, 2) := by decide +kernel
theorem dL_units_18 : decode cL_units 18 = .ok (.invokevirtual 70, 3) := by decide +kernel
theorem dL_units_21 : decode cL_units 21 = .ok (.iadd, 1) := by decide +kernel
theorem dL_units_22 : decode cL_units 22 = .ok (.istore_n 3, 1) := by decide +kernel
theorem dL_units_23 : decode cL_units 23 = .ok (.iinc 4 1, 3) := by decide +kernel
theorem dL_units_26 : decode cL_units 26 = .ok (.goto (-21), 3) := by decide +kernel
theorem dL_units_29 : decode cL_units 29 = .ok (.iload_n 3, 1) := by decide +kernel
theorem dL_units_30 : decode cL_units 30 = .ok (.ireturn, 1) := by decide +kernel
set_option maxRecDepth 20000 in
theorem ggL_stock_X4_stock : GoodIn wsL_stock wsX4_stock := goodIn_ca (goodIn_r _ [5, 6, 7, 8, 9, 10, 4, 11, 12, 13, 14, 15, 16, 17, 18, 19, 20, 21, 22, 23, 24, 25, 26, 27, 28] (by decide +kernel) (by decide +kernel)) (goodIn_sub (fun _ h => List.mem_cons_of_mem _ (List.mem_append_right _ h)) (by decide +kernel))
set_option maxRecDepth 20000 in
theorem gL_stock_X4_stock : GoodIn wsL_stock (wsV RL 29 RX4 yX4_stock wsX4_stock) := goodIn_app (goodIn_of _ (by decide +kernel)) ggL_stock_X4_stock
theorem dL_stock_0 : decode cL_stock 0 = .ok (.iconst 0, 1) := by decide +kernel
theorem dL_stock_1 : decode cL_stock 1 = .ok (.istore_n 1, 1) := by decide +kernel
theorem dL_stock_2 : decode cL_stock 2 = .ok (.iconst 0, 1) := by decide +kernel
theorem dL_stock_3 : decode cL_stock 3 = .ok (.istore_n 2, 1) := by decide +kernel
theorem dL_stock_4 : decode cL_stock 4 = .ok (.iload_n 2, 1) := by decide +kernel
theorem dL_stock_5 : decode cL_stock 5 = .ok (.bipush 50, 2) := by decide +kernel
theorem dL_stock_7 : decode cL_stock 7 = .ok (.if_icmp .ge 22, 3) := by decide +kernel
theorem dL_stock_10 : decode cL_stock 10 = .ok (.iload_n 1, 1) := by decide +kernel
theorem dL_stock_11 : decode cL_stock 11 = .ok (.aload_n 0, 1) := by decide +kernel
theorem dL_stock_12 : decode cL_stock 12 = .ok (.iload_n 2, 1) := by decide +kernel
theorem dL_stock_13 : decode cL_stock 13 = .ok (.iconst 5, 1) := by decide +kernel
theorem dL_stock_14 : decode cL_stock 14 = .ok (.idiv, 1) := by decide +kernel
theorem dL_stock_15 : decode cL_stock 15 = .ok (.iload_n 2, 1) := by decide +kernel
theorem dL_stock_16 : decode cL_stock 16 = .ok (.iconst 5, 1) := by decide +kernel
theorem dL_stock_17 : decode cL_stock 17 = .ok (.irem, 1) := by decide +kernel
theorem dL_stock_18 : decode cL_stock 18 = .ok (.invokevirtual 29, 3) := by decide +kernel
theorem dL_stock_21 : decode cL_stock 21 = .ok (.iadd, 1) := by decide +kernel
theorem dL_stock_22 : decode cL_stock 22 = .ok (.istore_n 1, 1) := by decide +kernel
theorem dL_stock_23 : decode cL_stock 23 = .ok (.iinc 2 1, 3) := by decide +kernel
theorem dL_stock_26 : decode cL_stock 26 = .ok (.goto (-22), 3) := by decide +kernel
theorem dL_stock_29 : decode cL_stock 29 = .ok (.iload_n 1, 1) := by decide +kernel
theorem dL_stock_30 : decode cL_stock 30 = .ok (.ireturn, 1) := by decide +kernel
set_option maxRecDepth 20000 in
theorem ggL_sale_X4_paid : GoodIn wsL_sale wsX4_paid := goodIn_ca (goodIn_r _ [11, 12, 13, 14, 15, 10, 16, 17, 18, 19, 20, 21, 22, 23, 98, 99, 100, 101, 102, 103, 104, 105, 106, 107, 108, 109, 110, 111, 112] (by decide +kernel) (by decide +kernel)) (goodIn_sub (fun _ h => List.mem_cons_of_mem _ (List.mem_append_right _ h)) (by decide +kernel))
set_option maxRecDepth 20000 in
theorem gL_sale_X4_paid : GoodIn wsL_sale (wsV RL 55 RX4 yX4_paid wsX4_paid) := goodIn_app (goodIn_of _ (by decide +kernel)) ggL_sale_X4_paid
set_option maxRecDepth 20000 in
theorem ggL_sale_X4_keptValue : GoodIn wsL_sale wsX4_keptValue := goodIn_ca (goodIn_r _ [27, 13, 14, 15, 10, 16, 17, 18, 19, 20, 21, 22, 23, 28, 29, 30, 31, 32, 33, 34, 35, 36, 37, 38, 39, 40, 41, 42, 43, 44, 45, 46, 107, 108, 109, 110, 111, 112, 98, 99, 100, 101, 102, 103, 104, 105, 106, 113, 114, 115, 116] (by decide +kernel) (by decide +kernel)) (goodIn_sub (fun _ h => List.mem_cons_of_mem _ (List.mem_append_right _ h)) (by decide +kernel))
set_option maxRecDepth 20000 in
theorem gL_sale_X4_keptValue : GoodIn wsL_sale (wsV RL 58 RX4 yX4_keptValue wsX4_keptValue) := goodIn_app (goodIn_of _ (by decide +kernel)) ggL_sale_X4_keptValue
set_option maxRecDepth 20000 in
theorem ggL_sale_X4_released : GoodIn wsL_sale wsX4_released := goodIn_ca (goodIn_r _ [50, 51, 13, 14, 15, 10, 16, 17, 18, 19, 20, 21, 22, 23, 98, 99, 100, 101, 102, 103, 104, 105, 106, 107, 108, 109, 110, 111, 112] (by decide +kernel) (by decide +kernel)) (goodIn_sub (fun _ h => List.mem_cons_of_mem _ (List.mem_append_right _ h)) (by decide +kernel))
set_option maxRecDepth 20000 in
theorem gL_sale_X4_released : GoodIn wsL_sale (wsV RL 61 RX4 yX4_released wsX4_released) := goodIn_app (goodIn_of _ (by decide +kernel)) ggL_sale_X4_released
set_option maxRecDepth 20000 in
theorem ggL_sale_X4_firstSale : GoodIn wsL_sale wsX4_firstSale := goodIn_ca (goodIn_r _ [55, 56, 13, 14, 15, 10, 16, 17, 18, 19, 20, 21, 22, 23, 98, 99, 100, 101, 102, 103, 104, 105, 106, 107, 108, 109, 110, 111, 112] (by decide +kernel) (by decide +kernel)) (goodIn_sub (fun _ h => List.mem_cons_of_mem _ (List.mem_append_right _ h)) (by decide +kernel))
set_option maxRecDepth 20000 in
theorem gL_sale_X4_firstSale : GoodIn wsL_sale (wsV RL 64 RX4 yX4_firstSale wsX4_firstSale) := goodIn_app (goodIn_of _ (by decide +kernel)) ggL_sale_X4_firstSale
set_option maxRecDepth 20000 in
theorem ggL_sale_X4_exchanges : GoodIn wsL_sale wsX4_exchanges := goodIn_ca (goodIn_r _ [60, 61, 13, 14, 15, 10, 16, 17, 18, 19, 20, 21, 22, 23, 98, 99, 100, 101, 102, 103, 104, 105, 106, 107, 108, 109, 110, 111, 112] (by decide +kernel) (by decide +kernel)) (goodIn_sub (fun _ h => List.mem_cons_of_mem _ (List.mem_append_right _ h)) (by decide +kernel))
set_option maxRecDepth 20000 in
theorem gL_sale_X4_exchanges : GoodIn wsL_sale (wsV RL 67 RX4 yX4_exchanges wsX4_exchanges) := goodIn_app (goodIn_of _ (by decide +kernel)) ggL_sale_X4_exchanges
set_option maxRecDepth 20000 in
theorem ggL_sale_X4_lineValue : GoodIn wsL_sale wsX4_lineValue := goodIn_ca (goodIn_r _ [65, 17, 18, 13, 14, 15, 10, 16, 19, 20, 21, 22, 23, 66, 67, 68, 31, 69, 33, 70, 71, 72, 73, 74, 29, 30, 32, 34, 35, 36, 37, 38, 39, 40, 42, 43, 44, 45, 46, 75, 76, 77, 78, 79, 80, 81, 82, 83, 84, 85, 86, 87, 88, 107, 108, 109, 110, 111, 112, 98, 99, 100, 101, 102, 103, 104, 105, 106, 113, 114, 115, 116] (by decide +kernel) (by decide +kernel)) (goodIn_sub (fun _ h => List.mem_cons_of_mem _ (List.mem_append_right _ h)) (by decide +kernel))
set_option maxRecDepth 20000 in
theorem gL_sale_X4_lineValue : GoodIn wsL_sale (wsV RL 73 RX4 yX4_lineValue wsX4_lineValue) := goodIn_app (goodIn_of _ (by decide +kernel)) ggL_sale_X4_lineValue
set_option maxRecDepth 20000 in
theorem ggL_sale_X4_kept : GoodIn wsL_sale wsX4_kept := goodIn_ca (goodIn_r _ [92, 93, 94, 95, 96, 10, 97, 17, 18, 13, 14, 15, 16, 19, 20, 21, 22, 23, 66, 67, 68, 31, 69, 33, 113, 114, 115, 116, 107, 108, 109, 110, 111, 112, 98, 99, 100, 101, 102, 103, 104, 105, 106] (by decide +kernel) (by decide +kernel)) (goodIn_sub (fun _ h => List.mem_cons_of_mem _ (List.mem_append_right _ h)) (by decide +kernel))
set_option maxRecDepth 20000 in
theorem gL_sale_X4_kept : GoodIn wsL_sale (wsV RL 70 RX4 yX4_kept wsX4_kept) := goodIn_app (goodIn_of _ (by decide +kernel)) ggL_sale_X4_kept
theorem dL_sale_0 : decode cL_sale 0 = .ok (.ldc2_w 86, 3) := by decide +kernel
theorem dL_sale_3 : decode cL_sale 3 = .ok (.aload_n 0, 1) := by decide +kernel
theorem dL_sale_4 : decode cL_sale 4 = .ok (.iload_n 1, 1) := by decide +kernel
theorem dL_sale_5 : decode cL_sale 5 = .ok (.invokevirtual 55, 3) := by decide +kernel
theorem dL_sale_8 : decode cL_sale 8 = .ok (.i2l, 1) := by decide +kernel
theorem dL_sale_9 : decode cL_sale 9 = .ok (.lmul, 1) := by decide +kernel
theorem dL_sale_10 : decode cL_sale 10 = .ok (.ldc2_w 88, 3) := by decide +kernel
theorem dL_sale_13 : decode cL_sale 13 = .ok (.aload_n 0, 1) := by decide +kernel
theorem dL_sale_14 : decode cL_sale 14 = .ok (.iload_n 1, 1) := by decide +kernel
theorem dL_sale_15 : decode cL_sale 15 = .ok (.invokevirtual 58, 3) := by decide +kernel
theorem dL_sale_18 : decode cL_sale 18 = .ok (.i2l, 1) := by decide +kernel
theorem dL_sale_19 : decode cL_sale 19 = .ok (.lmul, 1) := by decide +kernel
theorem dL_sale_20 : decode cL_sale 20 = .ok (.ladd, 1) := by decide +kernel
theorem dL_sale_21 : decode cL_sale 21 = .ok (.ldc2_w 90, 3) := by decide +kernel
theorem dL_sale_24 : decode cL_sale 24 = .ok (.aload_n 0, 1) := by decide +kernel
theorem dL_sale_25 : decode cL_sale 25 = .ok (.iload_n 1, 1) := by decide +kernel
theorem dL_sale_26 : decode cL_sale 26 = .ok (.invokevirtual 61, 3) := by decide +kernel
theorem dL_sale_29 : decode cL_sale 29 = .ok (.i2l, 1) := by decide +kernel
theorem dL_sale_30 : decode cL_sale 30 = .ok (.lmul, 1) := by decide +kernel
theorem dL_sale_31 : decode cL_sale 31 = .ok (.ladd, 1) := by decide +kernel
theorem dL_sale_32 : decode cL_sale 32 = .ok (.aload_n 0, 1) := by decide +kernel
theorem dL_sale_33 : decode cL_sale 33 = .ok (.iload_n 1, 1) := by decide +kernel
theorem dL_sale_34 : decode cL_sale 34 = .ok (.invokevirtual 64, 3) := by decide +kernel
theorem dL_sale_37 : decode cL_sale 37 = .ok (.i2l, 1) := by decide +kernel
theorem dL_sale_38 : decode cL_sale 38 = .ok (.ladd, 1) := by decide +kernel
theorem dL_sale_39 : decode cL_sale 39 = .ok (.ldc2_w 92, 3) := by decide +kernel
theorem dL_sale_42 : decode cL_sale 42 = .ok (.aload_n 0, 1) := by decide +kernel
theorem dL_sale_43 : decode cL_sale 43 = .ok (.iload_n 1, 1) := by decide +kernel
theorem dL_sale_44 : decode cL_sale 44 = .ok (.invokevirtual 67, 3) := by decide +kernel
theorem dL_sale_47 : decode cL_sale 47 = .ok (.i2l, 1) := by decide +kernel
theorem dL_sale_48 : decode cL_sale 48 = .ok (.lmul, 1) := by decide +kernel
theorem dL_sale_49 : decode cL_sale 49 = .ok (.ladd, 1) := by decide +kernel
theorem dL_sale_50 : decode cL_sale 50 = .ok (.lstore_n 3, 1) := by decide +kernel
theorem dL_sale_51 : decode cL_sale 51 = .ok (.iconst 0, 1) := by decide +kernel
theorem dL_sale_52 : decode cL_sale 52 = .ok (.istore 5, 2) := by decide +kernel
theorem dL_sale_54 : decode cL_sale 54 = .ok (.iload 5, 2) := by decide +kernel
theorem dL_sale_56 : decode cL_sale 56 = .ok (.aload_n 2, 1) := by decide +kernel
theorem dL_sale_57 : decode cL_sale 57 = .ok (.iload_n 1, 1) := by decide +kernel
theorem dL_sale_58 : decode cL_sale 58 = .ok (.iaload, 1) := by decide +kernel
theorem dL_sale_59 : decode cL_sale 59 = .ok (.if_icmp .ge 37, 3) := by decide +kernel
theorem dL_sale_62 : decode cL_sale 62 = .ok (.ldc2_w 94, 3) := by decide +kernel
theorem dL_sale_65 : decode cL_sale 65 = .ok (.lload_n 3, 1) := by decide +kernel
theorem dL_sale_66 : decode cL_sale 66 = .ok (.lmul, 1) := by decide +kernel
theorem dL_sale_67 : decode cL_sale 67 = .ok (.ldc2_w 96, 3) := by decide +kernel
theorem dL_sale_70 : decode cL_sale 70 = .ok (.aload_n 0, 1) := by decide +kernel
theorem dL_sale_71 : decode cL_sale 71 = .ok (.iload_n 1, 1) := by decide +kernel
theorem dL_sale_72 : decode cL_sale 72 = .ok (.iload 5, 2) := by decide +kernel
theorem dL_sale_74 : decode cL_sale 74 = .ok (.invokevirtual 73, 3) := by decide +kernel
theorem dL_sale_77 : decode cL_sale 77 = .ok (.i2l, 1) := by decide +kernel
theorem dL_sale_78 : decode cL_sale 78 = .ok (.lmul, 1) := by decide +kernel
theorem dL_sale_79 : decode cL_sale 79 = .ok (.ladd, 1) := by decide +kernel
theorem dL_sale_80 : decode cL_sale 80 = .ok (.aload_n 0, 1) := by decide +kernel
theorem dL_sale_81 : decode cL_sale 81 = .ok (.iload_n 1, 1) := by decide +kernel
theorem dL_sale_82 : decode cL_sale 82 = .ok (.iload 5, 2) := by decide +kernel
theorem dL_sale_84 : decode cL_sale 84 = .ok (.invokevirtual 70, 3) := by decide +kernel
theorem dL_sale_87 : decode cL_sale 87 = .ok (.i2l, 1) := by decide +kernel
theorem dL_sale_88 : decode cL_sale 88 = .ok (.ladd, 1) := by decide +kernel
theorem dL_sale_89 : decode cL_sale 89 = .ok (.lstore_n 3, 1) := by decide +kernel
theorem dL_sale_90 : decode cL_sale 90 = .ok (.iinc 5 1, 3) := by decide +kernel
theorem dL_sale_93 : decode cL_sale 93 = .ok (.goto (-39), 3) := by decide +kernel
theorem dL_sale_96 : decode cL_sale 96 = .ok (.lload_n 3, 1) := by decide +kernel
theorem dL_sale_97 : decode cL_sale 97 = .ok (.lreturn, 1) := by decide +kernel
set_option maxRecDepth 20000 in
theorem ggL_all_X4_sales : GoodIn wsL_all wsX4_sales := goodIn_r _ [9, 10, 150, 151, 152, 153, 154, 155] (by decide +kernel) (by decide +kernel)
set_option maxRecDepth 20000 in
theorem gL_all_X4_sales : GoodIn wsL_all (wsV RL 98 RX4 yX4_sales wsX4_sales) := goodIn_app (goodIn_of _ (by decide +kernel)) ggL_all_X4_sales
set_option maxRecDepth 20000 in
theorem ggL_all_X4_fees : GoodIn wsL_all wsX4_fees := goodIn_r _ [14, 15, 150, 151, 152, 153, 154, 155] (by decide +kernel) (by decide +kernel)
set_option maxRecDepth 20000 in
theorem gL_all_X4_fees : GoodIn wsL_all (wsV RL 102 RX4 yX4_fees wsX4_fees) := goodIn_app (goodIn_of _ (by decide +kernel)) ggL_all_X4_fees
set_option maxRecDepth 20000 in
theorem ggL_all_L_sale : GoodIn wsL_all wsL_sale := goodIn_ca (goodIn_r _ [19, 4, 20, 21, 1, 22, 23, 24, 25, 26, 8, 27, 28, 29, 30, 31, 32, 33, 34, 35, 36, 37, 38, 39, 40, 41, 42, 43, 44, 45, 46, 47, 48, 49, 50, 51, 52, 53, 54, 55, 56, 57, 58, 59, 60, 61, 62, 63, 64, 65, 66, 67, 68, 69, 70, 71, 72, 73, 74, 75, 76, 77, 78, 79, 80, 81, 82, 83, 84, 85, 86, 87, 88, 89, 90, 91, 92, 93, 94, 95, 96, 97, 98, 99, 100, 101, 102, 103, 104, 105, 106, 107, 108, 109, 110, 111, 112, 113, 156, 157, 158, 159, 160, 161, 162, 163, 164, 150, 151, 152, 153, 154, 155, 165, 166, 167, 168] (by decide +kernel) (by decide +kernel)) (goodIn_sub (fun _ h => List.mem_cons_of_mem _ (List.mem_append_left _ (List.mem_append_right _ h))) (by decide +kernel))
set_option maxRecDepth 20000 in
theorem gL_all_L_sale : GoodIn wsL_all (va_wsS RL 107 yL_sale wsL_sale) := goodIn_app (goodIn_of _ (by decide +kernel)) ggL_all_L_sale
set_option maxRecDepth 20000 in
theorem ggL_all_X4_score : GoodIn wsL_all wsX4_score := goodIn_ca (goodIn_r _ [117, 118, 119, 120, 121, 122, 123, 8, 124, 125, 126, 127, 128, 129, 130, 131, 132, 133, 134, 150, 151, 152, 153, 154, 155, 169, 170, 171, 172] (by decide +kernel) (by decide +kernel)) (goodIn_sub (fun _ h => List.mem_cons_of_mem _ (List.mem_append_right _ h)) (by decide +kernel))
set_option maxRecDepth 20000 in
theorem gL_all_X4_score : GoodIn wsL_all (wsV RL 36 RX4 yX4_score wsX4_score) := goodIn_app (goodIn_of _ (by decide +kernel)) ggL_all_X4_score
set_option maxRecDepth 20000 in
theorem ggL_all_X4_stock : GoodIn wsL_all wsX4_stock := goodIn_ca (goodIn_r _ [138, 118, 119, 139, 140, 141, 8, 142, 143, 144, 145, 146, 147, 148, 149, 150, 151, 152, 153, 154, 155, 173, 174, 175, 176] (by decide +kernel) (by decide +kernel)) (goodIn_sub (fun _ h => List.mem_cons_of_mem _ (List.mem_append_right _ h)) (by decide +kernel))
set_option maxRecDepth 20000 in
theorem gL_all_X4_stock : GoodIn wsL_all (wsV RL 29 RX4 yX4_stock wsX4_stock) := goodIn_app (goodIn_of _ (by decide +kernel)) ggL_all_X4_stock
theorem dL_all_0 : decode cL_all 0 = .ok (.ldc2_w 92, 3) := by decide +kernel
theorem dL_all_3 : decode cL_all 3 = .ok (.aload_n 0, 1) := by decide +kernel
theorem dL_all_4 : decode cL_all 4 = .ok (.invokevirtual 98, 3) := by decide +kernel
theorem dL_all_7 : decode cL_all 7 = .ok (.i2l, 1) := by decide +kernel
theorem dL_all_8 : decode cL_all 8 = .ok (.lmul, 1) := by decide +kernel
theorem dL_all_9 : decode cL_all 9 = .ok (.aload_n 0, 1) := by decide +kernel
theorem dL_all_10 : decode cL_all 10 = .ok (.invokevirtual 102, 3) := by decide +kernel
theorem dL_all_13 : decode cL_all 13 = .ok (.i2l, 1) := by decide +kernel
theorem dL_all_14 : decode cL_all 14 = .ok (.ladd, 1) := by decide +kernel
theorem dL_all_15 : decode cL_all 15 = .ok (.lstore_n 2, 1) := by decide +kernel
theorem dL_all_16 : decode cL_all 16 = .ok (.iconst 0, 1) := by decide +kernel
theorem dL_all_17 : decode cL_all 17 = .ok (.istore 4, 2) := by decide +kernel
theorem dL_all_19 : decode cL_all 19 = .ok (.iload 4, 2) := by decide +kernel
theorem dL_all_21 : decode cL_all 21 = .ok (.aload_n 0, 1) := by decide +kernel
theorem dL_all_22 : decode cL_all 22 = .ok (.invokevirtual 98, 3) := by decide +kernel
theorem dL_all_25 : decode cL_all 25 = .ok (.if_icmp .ge 23, 3) := by decide +kernel
theorem dL_all_28 : decode cL_all 28 = .ok (.ldc2_w 105, 3) := by decide +kernel
theorem dL_all_31 : decode cL_all 31 = .ok (.lload_n 2, 1) := by decide +kernel
theorem dL_all_32 : decode cL_all 32 = .ok (.lmul, 1) := by decide +kernel
theorem dL_all_33 : decode cL_all 33 = .ok (.aload_n 0, 1) := by decide +kernel
theorem dL_all_34 : decode cL_all 34 = .ok (.iload 4, 2) := by decide +kernel
theorem dL_all_36 : decode cL_all 36 = .ok (.aload_n 1, 1) := by decide +kernel
theorem dL_all_37 : decode cL_all 37 = .ok (.invokestatic 107, 3) := by decide +kernel
theorem dL_all_40 : decode cL_all 40 = .ok (.ladd, 1) := by decide +kernel
theorem dL_all_41 : decode cL_all 41 = .ok (.lstore_n 2, 1) := by decide +kernel
theorem dL_all_42 : decode cL_all 42 = .ok (.iinc 4 1, 3) := by decide +kernel
theorem dL_all_45 : decode cL_all 45 = .ok (.goto (-26), 3) := by decide +kernel
theorem dL_all_48 : decode cL_all 48 = .ok (.iconst 0, 1) := by decide +kernel
theorem dL_all_49 : decode cL_all 49 = .ok (.istore 4, 2) := by decide +kernel
theorem dL_all_51 : decode cL_all 51 = .ok (.iload 4, 2) := by decide +kernel
theorem dL_all_53 : decode cL_all 53 = .ok (.bipush 10, 2) := by decide +kernel
theorem dL_all_55 : decode cL_all 55 = .ok (.if_icmp .ge 23, 3) := by decide +kernel
theorem dL_all_58 : decode cL_all 58 = .ok (.ldc2_w 113, 3) := by decide +kernel
theorem dL_all_61 : decode cL_all 61 = .ok (.lload_n 2, 1) := by decide +kernel
theorem dL_all_62 : decode cL_all 62 = .ok (.lmul, 1) := by decide +kernel
theorem dL_all_63 : decode cL_all 63 = .ok (.aload_n 0, 1) := by decide +kernel
theorem dL_all_64 : decode cL_all 64 = .ok (.iload 4, 2) := by decide +kernel
theorem dL_all_66 : decode cL_all 66 = .ok (.invokevirtual 36, 3) := by decide +kernel
theorem dL_all_69 : decode cL_all 69 = .ok (.i2l, 1) := by decide +kernel
theorem dL_all_70 : decode cL_all 70 = .ok (.ladd, 1) := by decide +kernel
theorem dL_all_71 : decode cL_all 71 = .ok (.lstore_n 2, 1) := by decide +kernel
theorem dL_all_72 : decode cL_all 72 = .ok (.iinc 4 1, 3) := by decide +kernel
theorem dL_all_75 : decode cL_all 75 = .ok (.goto (-24), 3) := by decide +kernel
theorem dL_all_78 : decode cL_all 78 = .ok (.iconst 0, 1) := by decide +kernel
theorem dL_all_79 : decode cL_all 79 = .ok (.istore 4, 2) := by decide +kernel
theorem dL_all_81 : decode cL_all 81 = .ok (.iload 4, 2) := by decide +kernel
theorem dL_all_83 : decode cL_all 83 = .ok (.bipush 50, 2) := by decide +kernel
theorem dL_all_85 : decode cL_all 85 = .ok (.if_icmp .ge 29, 3) := by decide +kernel
theorem dL_all_88 : decode cL_all 88 = .ok (.ldc2_w 86, 3) := by decide +kernel
theorem dL_all_91 : decode cL_all 91 = .ok (.lload_n 2, 1) := by decide +kernel
theorem dL_all_92 : decode cL_all 92 = .ok (.lmul, 1) := by decide +kernel
theorem dL_all_93 : decode cL_all 93 = .ok (.aload_n 0, 1) := by decide +kernel
theorem dL_all_94 : decode cL_all 94 = .ok (.iload 4, 2) := by decide +kernel
theorem dL_all_96 : decode cL_all 96 = .ok (.iconst 5, 1) := by decide +kernel
theorem dL_all_97 : decode cL_all 97 = .ok (.idiv, 1) := by decide +kernel
theorem dL_all_98 : decode cL_all 98 = .ok (.iload 4, 2) := by decide +kernel
theorem dL_all_100 : decode cL_all 100 = .ok (.iconst 5, 1) := by decide +kernel
theorem dL_all_101 : decode cL_all 101 = .ok (.irem, 1) := by decide +kernel
theorem dL_all_102 : decode cL_all 102 = .ok (.invokevirtual 29, 3) := by decide +kernel
theorem dL_all_105 : decode cL_all 105 = .ok (.i2l, 1) := by decide +kernel
theorem dL_all_106 : decode cL_all 106 = .ok (.ladd, 1) := by decide +kernel
theorem dL_all_107 : decode cL_all 107 = .ok (.lstore_n 2, 1) := by decide +kernel
theorem dL_all_108 : decode cL_all 108 = .ok (.iinc 4 1, 3) := by decide +kernel
theorem dL_all_111 : decode cL_all 111 = .ok (.goto (-30), 3) := by decide +kernel
theorem dL_all_114 : decode cL_all 114 = .ok (.lload_n 2, 1) := by decide +kernel
theorem dL_all_115 : decode cL_all 115 = .ok (.lreturn, 1) := by decide +kernel
