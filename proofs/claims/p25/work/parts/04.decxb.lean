theorem dX3_remainder_0 : decode cX3_remainder 0 = .ok (.aload_n 0, 1) := by decide +kernel
theorem dX3_remainder_1 : decode cX3_remainder 1 = .ok (.iload_n 1, 1) := by decide +kernel
theorem dX3_remainder_2 : decode cX3_remainder 2 = .ok (.invokevirtual 74, 3) := by decide +kernel
theorem dX3_remainder_5 : decode cX3_remainder 5 = .ok (.astore 4, 2) := by decide +kernel
theorem dX3_remainder_7 : decode cX3_remainder 7 = .ok (.aload 4, 2) := by decide +kernel
theorem dX3_remainder_9 : decode cX3_remainder 9 = .ok (.ifnull 7, 3) := by decide +kernel
theorem dX3_remainder_12 : decode cX3_remainder 12 = .ok (.iload_n 3, 1) := by decide +kernel
theorem dX3_remainder_13 : decode cX3_remainder 13 = .ok (.ifCond .gt 7, 3) := by decide +kernel
theorem dX3_remainder_16 : decode cX3_remainder 16 = .ok (.ldc2_w 78, 3) := by decide +kernel
theorem dX3_remainder_19 : decode cX3_remainder 19 = .ok (.lreturn, 1) := by decide +kernel
theorem dX3_remainder_20 : decode cX3_remainder 20 = .ok (.iload_n 2, 1) := by decide +kernel
theorem dX3_remainder_21 : decode cX3_remainder 21 = .ok (.i2l, 1) := by decide +kernel
theorem dX3_remainder_22 : decode cX3_remainder 22 = .ok (.aload 4, 2) := by decide +kernel
theorem dX3_remainder_24 : decode cX3_remainder 24 = .ok (.aload 4, 2) := by decide +kernel
theorem dX3_remainder_26 : decode cX3_remainder 26 = .ok (.getfield 34, 3) := by decide +kernel
theorem dX3_remainder_29 : decode cX3_remainder 29 = .ok (.invokevirtual 55, 3) := by decide +kernel
theorem dX3_remainder_32 : decode cX3_remainder 32 = .ok (.i2l, 1) := by decide +kernel
theorem dX3_remainder_33 : decode cX3_remainder 33 = .ok (.lmul, 1) := by decide +kernel
theorem dX3_remainder_34 : decode cX3_remainder 34 = .ok (.iload_n 3, 1) := by decide +kernel
theorem dX3_remainder_35 : decode cX3_remainder 35 = .ok (.i2l, 1) := by decide +kernel
theorem dX3_remainder_36 : decode cX3_remainder 36 = .ok (.lrem, 1) := by decide +kernel
theorem dX3_remainder_37 : decode cX3_remainder 37 = .ok (.lreturn, 1) := by decide +kernel
set_option maxRecDepth 20000 in
theorem ggX3_linesAhead_X3_remainder : GoodIn wsX3_linesAhead wsX3_remainder := goodIn_r _ [6, 7, 8, 9, 10, 11, 5, 12, 1, 13, 14, 15, 16, 17, 18, 28, 29, 30, 31, 19, 20, 21, 22, 23, 24, 25, 26, 27] (by decide +kernel) (by decide +kernel)
set_option maxRecDepth 20000 in
theorem gX3_linesAhead_X3_remainder : GoodIn wsX3_linesAhead (wsV RX3 80 RX3 yX3_remainder wsX3_remainder) := goodIn_app (goodIn_of _ (by decide +kernel)) ggX3_linesAhead_X3_remainder
theorem dX3_linesAhead_0 : decode cX3_linesAhead 0 = .ok (.aload_n 0, 1) := by decide +kernel
theorem dX3_linesAhead_1 : decode cX3_linesAhead 1 = .ok (.iload_n 1, 1) := by decide +kernel
theorem dX3_linesAhead_2 : decode cX3_linesAhead 2 = .ok (.iload_n 2, 1) := by decide +kernel
theorem dX3_linesAhead_3 : decode cX3_linesAhead 3 = .ok (.iload_n 3, 1) := by decide +kernel
theorem dX3_linesAhead_4 : decode cX3_linesAhead 4 = .ok (.invokevirtual 80, 3) := by decide +kernel
theorem dX3_linesAhead_7 : decode cX3_linesAhead 7 = .ok (.lstore 4, 2) := by decide +kernel
theorem dX3_linesAhead_9 : decode cX3_linesAhead 9 = .ok (.iconst 0, 1) := by decide +kernel
theorem dX3_linesAhead_10 : decode cX3_linesAhead 10 = .ok (.istore 6, 2) := by decide +kernel
theorem dX3_linesAhead_12 : decode cX3_linesAhead 12 = .ok (.iconst 0, 1) := by decide +kernel
theorem dX3_linesAhead_13 : decode cX3_linesAhead 13 = .ok (.istore 7, 2) := by decide +kernel
theorem dX3_linesAhead_15 : decode cX3_linesAhead 15 = .ok (.iload 7, 2) := by decide +kernel
theorem dX3_linesAhead_17 : decode cX3_linesAhead 17 = .ok (.aload_n 0, 1) := by decide +kernel
theorem dX3_linesAhead_18 : decode cX3_linesAhead 18 = .ok (.getfield 11, 3) := by decide +kernel
theorem dX3_linesAhead_21 : decode cX3_linesAhead 21 = .ok (.arraylength, 1) := by decide +kernel
theorem dX3_linesAhead_22 : decode cX3_linesAhead 22 = .ok (.if_icmp .ge 44, 3) := by decide +kernel
theorem dX3_linesAhead_25 : decode cX3_linesAhead 25 = .ok (.aload_n 0, 1) := by decide +kernel
theorem dX3_linesAhead_26 : decode cX3_linesAhead 26 = .ok (.iload 7, 2) := by decide +kernel
theorem dX3_linesAhead_28 : decode cX3_linesAhead 28 = .ok (.iload_n 2, 1) := by decide +kernel
theorem dX3_linesAhead_29 : decode cX3_linesAhead 29 = .ok (.iload_n 3, 1) := by decide +kernel
theorem dX3_linesAhead_30 : decode cX3_linesAhead 30 = .ok (.invokevirtual 80, 3) := by decide +kernel
theorem dX3_linesAhead_33 : decode cX3_linesAhead 33 = .ok (.lstore 8, 2) := by decide +kernel
theorem dX3_linesAhead_35 : decode cX3_linesAhead 35 = .ok (.lload 8, 2) := by decide +kernel
theorem dX3_linesAhead_37 : decode cX3_linesAhead 37 = .ok (.lload 4, 2) := by decide +kernel
theorem dX3_linesAhead_39 : decode cX3_linesAhead 39 = .ok (.lcmp, 1) := by decide +kernel
theorem dX3_linesAhead_40 : decode cX3_linesAhead 40 = .ok (.ifCond .gt 17, 3) := by decide +kernel
theorem dX3_linesAhead_43 : decode cX3_linesAhead 43 = .ok (.lload 8, 2) := by decide +kernel
theorem dX3_linesAhead_45 : decode cX3_linesAhead 45 = .ok (.lload 4, 2) := by decide +kernel
theorem dX3_linesAhead_47 : decode cX3_linesAhead 47 = .ok (.lcmp, 1) := by decide +kernel
theorem dX3_linesAhead_48 : decode cX3_linesAhead 48 = .ok (.ifCond .ne 12, 3) := by decide +kernel
theorem dX3_linesAhead_51 : decode cX3_linesAhead 51 = .ok (.iload 7, 2) := by decide +kernel
theorem dX3_linesAhead_53 : decode cX3_linesAhead 53 = .ok (.iload_n 1, 1) := by decide +kernel
theorem dX3_linesAhead_54 : decode cX3_linesAhead 54 = .ok (.if_icmp .ge 6, 3) := by decide +kernel
theorem dX3_linesAhead_57 : decode cX3_linesAhead 57 = .ok (.iinc 6 1, 3) := by decide +kernel
theorem dX3_linesAhead_60 : decode cX3_linesAhead 60 = .ok (.iinc 7 1, 3) := by decide +kernel
theorem dX3_linesAhead_63 : decode cX3_linesAhead 63 = .ok (.goto (-48), 3) := by decide +kernel
theorem dX3_linesAhead_66 : decode cX3_linesAhead 66 = .ok (.iload 6, 2) := by decide +kernel
theorem dX3_linesAhead_68 : decode cX3_linesAhead 68 = .ok (.ireturn, 1) := by decide +kernel
set_option maxRecDepth 20000 in
theorem ggX4_init_X2_init : GoodIn wsX4_init wsX2_init := goodIn_r _ [15, 16, 2, 3, 17, 18, 19, 20, 21, 35, 36, 37, 38] (by decide +kernel) (by decide +kernel)
set_option maxRecDepth 20000 in
theorem gX4_init_X2_init_n15 : GoodIn wsX4_init (wsX2_init) := ggX4_init_X2_init
set_option maxRecDepth 20000 in
theorem ggX4_init_X0_init : GoodIn wsX4_init wsX0_init := goodIn_r _ [23, 24, 2, 3, 20, 25, 26, 27, 28, 39, 40, 41, 42] (by decide +kernel) (by decide +kernel)
set_option maxRecDepth 20000 in
theorem gX4_init_X0_init_n22 : GoodIn wsX4_init (wsX0_init) := ggX4_init_X0_init
theorem dX4_init_0 : decode cX4_init 0 = .ok (.aload_n 0, 1) := by decide +kernel
theorem dX4_init_1 : decode cX4_init 1 = .ok (.invokespecial 1, 3) := by decide +kernel
theorem dX4_init_4 : decode cX4_init 4 = .ok (.aload_n 0, 1) := by decide +kernel
theorem dX4_init_5 : decode cX4_init 5 = .ok (.bipush 10, 2) := by decide +kernel
theorem dX4_init_7 : decode cX4_init 7 = .ok (.anewarray 9, 3) := by decide +kernel
theorem dX4_init_10 : decode cX4_init 10 = .ok (.putfield 11, 3) := by decide +kernel
theorem dX4_init_13 : decode cX4_init 13 = .ok (.iconst 0, 1) := by decide +kernel
theorem dX4_init_14 : decode cX4_init 14 = .ok (.istore_n 1, 1) := by decide +kernel
theorem dX4_init_15 : decode cX4_init 15 = .ok (.iload_n 1, 1) := by decide +kernel
theorem dX4_init_16 : decode cX4_init 16 = .ok (.aload_n 0, 1) := by decide +kernel
theorem dX4_init_17 : decode cX4_init 17 = .ok (.getfield 11, 3) := by decide +kernel
theorem dX4_init_20 : decode cX4_init 20 = .ok (.arraylength, 1) := by decide +kernel
theorem dX4_init_21 : decode cX4_init 21 = .ok (.if_icmp .ge 22, 3) := by decide +kernel
theorem dX4_init_24 : decode cX4_init 24 = .ok (.aload_n 0, 1) := by decide +kernel
theorem dX4_init_25 : decode cX4_init 25 = .ok (.getfield 11, 3) := by decide +kernel
theorem dX4_init_28 : decode cX4_init 28 = .ok (.iload_n 1, 1) := by decide +kernel
theorem dX4_init_29 : decode cX4_init 29 = .ok (.new 9, 3) := by decide +kernel
theorem dX4_init_32 : decode cX4_init 32 = .ok (.dup, 1) := by decide +kernel
theorem dX4_init_33 : decode cX4_init 33 = .ok (.invokespecial 15, 3) := by decide +kernel
theorem dX4_init_36 : decode cX4_init 36 = .ok (.aastore, 1) := by decide +kernel
theorem dX4_init_37 : decode cX4_init 37 = .ok (.iinc 1 1, 3) := by decide +kernel
theorem dX4_init_40 : decode cX4_init 40 = .ok (.goto (-25), 3) := by decide +kernel
theorem dX4_init_43 : decode cX4_init 43 = .ok (.aload_n 0, 1) := by decide +kernel
theorem dX4_init_44 : decode cX4_init 44 = .ok (.bipush 10, 2) := by decide +kernel
theorem dX4_init_46 : decode cX4_init 46 = .ok (.anewarray 16, 3) := by decide +kernel
theorem dX4_init_49 : decode cX4_init 49 = .ok (.putfield 18, 3) := by decide +kernel
theorem dX4_init_52 : decode cX4_init 52 = .ok (.iconst 0, 1) := by decide +kernel
theorem dX4_init_53 : decode cX4_init 53 = .ok (.istore_n 1, 1) := by decide +kernel
theorem dX4_init_54 : decode cX4_init 54 = .ok (.iload_n 1, 1) := by decide +kernel
theorem dX4_init_55 : decode cX4_init 55 = .ok (.aload_n 0, 1) := by decide +kernel
theorem dX4_init_56 : decode cX4_init 56 = .ok (.getfield 18, 3) := by decide +kernel
theorem dX4_init_59 : decode cX4_init 59 = .ok (.arraylength, 1) := by decide +kernel
theorem dX4_init_60 : decode cX4_init 60 = .ok (.if_icmp .ge 22, 3) := by decide +kernel
theorem dX4_init_63 : decode cX4_init 63 = .ok (.aload_n 0, 1) := by decide +kernel
theorem dX4_init_64 : decode cX4_init 64 = .ok (.getfield 18, 3) := by decide +kernel
theorem dX4_init_67 : decode cX4_init 67 = .ok (.iload_n 1, 1) := by decide +kernel
theorem dX4_init_68 : decode cX4_init 68 = .ok (.new 16, 3) := by decide +kernel
theorem dX4_init_71 : decode cX4_init 71 = .ok (.dup, 1) := by decide +kernel
theorem dX4_init_72 : decode cX4_init 72 = .ok (.invokespecial 22, 3) := by decide +kernel
theorem dX4_init_75 : decode cX4_init 75 = .ok (.aastore, 1) := by decide +kernel
theorem dX4_init_76 : decode cX4_init 76 = .ok (.iinc 1 1, 3) := by decide +kernel
theorem dX4_init_79 : decode cX4_init 79 = .ok (.goto (-25), 3) := by decide +kernel
theorem dX4_init_82 : decode cX4_init 82 = .ok (.aload_n 0, 1) := by decide +kernel
theorem dX4_init_83 : decode cX4_init 83 = .ok (.bipush 40, 2) := by decide +kernel
theorem dX4_init_85 : decode cX4_init 85 = .ok (.anewarray 23, 3) := by decide +kernel
theorem dX4_init_88 : decode cX4_init 88 = .ok (.putfield 25, 3) := by decide +kernel
theorem dX4_init_91 : decode cX4_init 91 = .ok (.return_, 1) := by decide +kernel
set_option maxRecDepth 20000 in
theorem ggX4_setProduct_X4_productAt : GoodIn wsX4_setProduct wsX4_productAt := goodIn_r _ [11, 12, 20, 21, 22, 23, 24, 25] (by decide +kernel) (by decide +kernel)
set_option maxRecDepth 20000 in
theorem gX4_setProduct_X4_productAt : GoodIn wsX4_setProduct (wsV RX4 29 RX4 yX4_productAt wsX4_productAt) := goodIn_app (goodIn_of _ (by decide +kernel)) ggX4_setProduct_X4_productAt
set_option maxRecDepth 20000 in
theorem ggX4_setProduct_X4_isCost : GoodIn wsX4_setProduct wsX4_isCost := goodIn_r _ [15, 3] (by decide +kernel) (by decide +kernel)
set_option maxRecDepth 20000 in
theorem gX4_setProduct_X4_isCost : GoodIn wsX4_setProduct (va_wsS RX4 34 yX4_isCost wsX4_isCost) := goodIn_app (goodIn_of _ (by decide +kernel)) ggX4_setProduct_X4_isCost
theorem dX4_setProduct_0 : decode cX4_setProduct 0 = .ok (.aload_n 0, 1) := by decide +kernel
theorem dX4_setProduct_1 : decode cX4_setProduct 1 = .ok (.iload_n 1, 1) := by decide +kernel
theorem dX4_setProduct_2 : decode cX4_setProduct 2 = .ok (.invokevirtual 29, 3) := by decide +kernel
theorem dX4_setProduct_5 : decode cX4_setProduct 5 = .ok (.astore 5, 2) := by decide +kernel
theorem dX4_setProduct_7 : decode cX4_setProduct 7 = .ok (.aload 5, 2) := by decide +kernel
theorem dX4_setProduct_9 : decode cX4_setProduct 9 = .ok (.ifnull 29, 3) := by decide +kernel
theorem dX4_setProduct_12 : decode cX4_setProduct 12 = .ok (.iload_n 2, 1) := by decide +kernel
theorem dX4_setProduct_13 : decode cX4_setProduct 13 = .ok (.iconst 1, 1) := by decide +kernel
theorem dX4_setProduct_14 : decode cX4_setProduct 14 = .ok (.if_icmp .lt 24, 3) := by decide +kernel
theorem dX4_setProduct_17 : decode cX4_setProduct 17 = .ok (.iload_n 2, 1) := by decide +kernel
theorem dX4_setProduct_18 : decode cX4_setProduct 18 = .ok (.ldc 33, 2) := by decide +kernel
theorem dX4_setProduct_20 : decode cX4_setProduct 20 = .ok (.if_icmp .gt 18, 3) := by decide +kernel
theorem dX4_setProduct_23 : decode cX4_setProduct 23 = .ok (.iload_n 3, 1) := by decide +kernel
theorem dX4_setProduct_24 : decode cX4_setProduct 24 = .ok (.invokestatic 34, 3) := by decide +kernel
theorem dX4_setProduct_27 : decode cX4_setProduct 27 = .ok (.ifCond .eq 11, 3) := by decide +kernel
theorem dX4_setProduct_30 : decode cX4_setProduct 30 = .ok (.iload 4, 2) := by decide +kernel
theorem dX4_setProduct_32 : decode cX4_setProduct 32 = .ok (.invokestatic 34, 3) := by decide +kernel
theorem dX4_setProduct_35 : decode cX4_setProduct 35 = .ok (.ifCond .ne 13, 3) := by decide +kernel
theorem dX4_setProduct_38 : decode cX4_setProduct 38 = .ok (.new 38, 3) := by decide +kernel
theorem dX4_setProduct_41 : decode cX4_setProduct 41 = .ok (.dup, 1) := by decide +kernel
theorem dX4_setProduct_42 : decode cX4_setProduct 42 = .ok (.ldc 40, 2) := by decide +kernel
theorem dX4_setProduct_44 : decode cX4_setProduct 44 = .ok (.invokespecial 42, 3) := by decide +kernel
theorem dX4_setProduct_47 : decode cX4_setProduct 47 = .ok (.athrow, 1) := by decide +kernel
theorem dX4_setProduct_48 : decode cX4_setProduct 48 = .ok (.aload 5, 2) := by decide +kernel
theorem dX4_setProduct_50 : decode cX4_setProduct 50 = .ok (.getfield 45, 3) := by decide +kernel
theorem dX4_setProduct_53 : decode cX4_setProduct 53 = .ok (.istore 6, 2) := by decide +kernel
theorem dX4_setProduct_55 : decode cX4_setProduct 55 = .ok (.aload 5, 2) := by decide +kernel
theorem dX4_setProduct_57 : decode cX4_setProduct 57 = .ok (.iload_n 2, 1) := by decide +kernel
theorem dX4_setProduct_58 : decode cX4_setProduct 58 = .ok (.putfield 45, 3) := by decide +kernel
theorem dX4_setProduct_61 : decode cX4_setProduct 61 = .ok (.aload 5, 2) := by decide +kernel
theorem dX4_setProduct_63 : decode cX4_setProduct 63 = .ok (.iload_n 3, 1) := by decide +kernel
theorem dX4_setProduct_64 : decode cX4_setProduct 64 = .ok (.putfield 49, 3) := by decide +kernel
theorem dX4_setProduct_67 : decode cX4_setProduct 67 = .ok (.aload 5, 2) := by decide +kernel
theorem dX4_setProduct_69 : decode cX4_setProduct 69 = .ok (.iload 4, 2) := by decide +kernel
theorem dX4_setProduct_71 : decode cX4_setProduct 71 = .ok (.putfield 52, 3) := by decide +kernel
theorem dX4_setProduct_74 : decode cX4_setProduct 74 = .ok (.iload 6, 2) := by decide +kernel
theorem dX4_setProduct_76 : decode cX4_setProduct 76 = .ok (.ireturn, 1) := by decide +kernel
theorem dX4_pass_0 : decode cX4_pass 0 = .ok (.iload_n 1, 1) := by decide +kernel
theorem dX4_pass_1 : decode cX4_pass 1 = .ok (.iconst 1, 1) := by decide +kernel
theorem dX4_pass_2 : decode cX4_pass 2 = .ok (.if_icmp .lt 10, 3) := by decide +kernel
theorem dX4_pass_5 : decode cX4_pass 5 = .ok (.iload_n 1, 1) := by decide +kernel
theorem dX4_pass_6 : decode cX4_pass 6 = .ok (.sipush 365, 3) := by decide +kernel
theorem dX4_pass_9 : decode cX4_pass 9 = .ok (.if_icmp .le 13, 3) := by decide +kernel
theorem dX4_pass_12 : decode cX4_pass 12 = .ok (.new 38, 3) := by decide +kernel
theorem dX4_pass_15 : decode cX4_pass 15 = .ok (.dup, 1) := by decide +kernel
theorem dX4_pass_16 : decode cX4_pass 16 = .ok (.ldc 55, 2) := by decide +kernel
theorem dX4_pass_18 : decode cX4_pass 18 = .ok (.invokespecial 42, 3) := by decide +kernel
theorem dX4_pass_21 : decode cX4_pass 21 = .ok (.athrow, 1) := by decide +kernel
theorem dX4_pass_22 : decode cX4_pass 22 = .ok (.aload_n 0, 1) := by decide +kernel
theorem dX4_pass_23 : decode cX4_pass 23 = .ok (.getfield 57, 3) := by decide +kernel
theorem dX4_pass_26 : decode cX4_pass 26 = .ok (.iload_n 1, 1) := by decide +kernel
theorem dX4_pass_27 : decode cX4_pass 27 = .ok (.iadd, 1) := by decide +kernel
theorem dX4_pass_28 : decode cX4_pass 28 = .ok (.ldc 33, 2) := by decide +kernel
theorem dX4_pass_30 : decode cX4_pass 30 = .ok (.if_icmp .le 13, 3) := by decide +kernel
theorem dX4_pass_33 : decode cX4_pass 33 = .ok (.new 60, 3) := by decide +kernel
theorem dX4_pass_36 : decode cX4_pass 36 = .ok (.dup, 1) := by decide +kernel
theorem dX4_pass_37 : decode cX4_pass 37 = .ok (.ldc 62, 2) := by decide +kernel
theorem dX4_pass_39 : decode cX4_pass 39 = .ok (.invokespecial 64, 3) := by decide +kernel
theorem dX4_pass_42 : decode cX4_pass 42 = .ok (.athrow, 1) := by decide +kernel
theorem dX4_pass_43 : decode cX4_pass 43 = .ok (.aload_n 0, 1) := by decide +kernel
theorem dX4_pass_44 : decode cX4_pass 44 = .ok (.dup, 1) := by decide +kernel
theorem dX4_pass_45 : decode cX4_pass 45 = .ok (.getfield 57, 3) := by decide +kernel
theorem dX4_pass_48 : decode cX4_pass 48 = .ok (.iload_n 1, 1) := by decide +kernel
theorem dX4_pass_49 : decode cX4_pass 49 = .ok (.iadd, 1) := by decide +kernel
theorem dX4_pass_50 : decode cX4_pass 50 = .ok (.putfield 57, 3) := by decide +kernel
theorem dX4_pass_53 : decode cX4_pass 53 = .ok (.aload_n 0, 1) := by decide +kernel
theorem dX4_pass_54 : decode cX4_pass 54 = .ok (.getfield 57, 3) := by decide +kernel
theorem dX4_pass_57 : decode cX4_pass 57 = .ok (.ireturn, 1) := by decide +kernel
set_option maxRecDepth 20000 in
theorem ggX4_open_X4_customerAt : GoodIn wsX4_open wsX4_customerAt := goodIn_r _ [13, 14, 44, 45, 46, 47, 48, 49] (by decide +kernel) (by decide +kernel)
set_option maxRecDepth 20000 in
theorem gX4_open_X4_customerAt : GoodIn wsX4_open (wsV RX4 65 RX4 yX4_customerAt wsX4_customerAt) := goodIn_app (goodIn_of _ (by decide +kernel)) ggX4_open_X4_customerAt
set_option maxRecDepth 20000 in
theorem ggX4_open_X4_isRegisterFull : GoodIn wsX4_open wsX4_isRegisterFull := goodIn_r _ [18, 8, 19, 44, 45, 46, 47, 48, 49] (by decide +kernel) (by decide +kernel)
set_option maxRecDepth 20000 in
theorem gX4_open_X4_isRegisterFull : GoodIn wsX4_open (wsV RX4 71 RX4 yX4_isRegisterFull wsX4_isRegisterFull) := goodIn_app (goodIn_of _ (by decide +kernel)) ggX4_open_X4_isRegisterFull
set_option maxRecDepth 20000 in
theorem ggX4_open_X3_init : GoodIn wsX4_open wsX3_init := goodIn_r _ [22, 23, 24, 25, 26, 27, 28, 29, 30, 35, 36, 37, 38, 39, 40, 41, 42, 43] (by decide +kernel) (by decide +kernel)
set_option maxRecDepth 20000 in
theorem gX4_open_X3_init : GoodIn wsX4_open (wsX3_init) := ggX4_open_X3_init
set_option maxRecDepth 20000 in
theorem ggX4_open_X4_enter : GoodIn wsX4_open wsX4_enter := goodIn_r _ [34, 8, 19, 44, 45, 46, 47, 48, 49] (by decide +kernel) (by decide +kernel)
set_option maxRecDepth 20000 in
theorem gX4_open_X4_enter : GoodIn wsX4_open (wsV RX4 83 RX4 yX4_enter wsX4_enter) := goodIn_app (goodIn_of _ (by decide +kernel)) ggX4_open_X4_enter
theorem dX4_open_0 : decode cX4_open 0 = .ok (.aload_n 0, 1) := by decide +kernel
theorem dX4_open_1 : decode cX4_open 1 = .ok (.iload_n 1, 1) := by decide +kernel
theorem dX4_open_2 : decode cX4_open 2 = .ok (.invokevirtual 65, 3) := by decide +kernel
theorem dX4_open_5 : decode cX4_open 5 = .ok (.astore_n 2, 1) := by decide +kernel
theorem dX4_open_6 : decode cX4_open 6 = .ok (.aload_n 2, 1) := by decide +kernel
theorem dX4_open_7 : decode cX4_open 7 = .ok (.ifnonnull 13, 3) := by decide +kernel
theorem dX4_open_10 : decode cX4_open 10 = .ok (.new 38, 3) := by decide +kernel
theorem dX4_open_13 : decode cX4_open 13 = .ok (.dup, 1) := by decide +kernel
theorem dX4_open_14 : decode cX4_open 14 = .ok (.ldc 69, 2) := by decide +kernel
theorem dX4_open_16 : decode cX4_open 16 = .ok (.invokespecial 42, 3) := by decide +kernel
theorem dX4_open_19 : decode cX4_open 19 = .ok (.athrow, 1) := by decide +kernel
theorem dX4_open_20 : decode cX4_open 20 = .ok (.aload_n 0, 1) := by decide +kernel
theorem dX4_open_21 : decode cX4_open 21 = .ok (.invokevirtual 71, 3) := by decide +kernel
theorem dX4_open_24 : decode cX4_open 24 = .ok (.ifCond .eq 13, 3) := by decide +kernel
theorem dX4_open_27 : decode cX4_open 27 = .ok (.new 60, 3) := by decide +kernel
theorem dX4_open_30 : decode cX4_open 30 = .ok (.dup, 1) := by decide +kernel
theorem dX4_open_31 : decode cX4_open 31 = .ok (.ldc 75, 2) := by decide +kernel
theorem dX4_open_33 : decode cX4_open 33 = .ok (.invokespecial 64, 3) := by decide +kernel
theorem dX4_open_36 : decode cX4_open 36 = .ok (.athrow, 1) := by decide +kernel
theorem dX4_open_37 : decode cX4_open 37 = .ok (.aload_n 0, 1) := by decide +kernel
theorem dX4_open_38 : decode cX4_open 38 = .ok (.new 23, 3) := by decide +kernel
theorem dX4_open_41 : decode cX4_open 41 = .ok (.dup, 1) := by decide +kernel
theorem dX4_open_42 : decode cX4_open 42 = .ok (.aload_n 2, 1) := by decide +kernel
theorem dX4_open_43 : decode cX4_open 43 = .ok (.aload_n 0, 1) := by decide +kernel
theorem dX4_open_44 : decode cX4_open 44 = .ok (.getfield 77, 3) := by decide +kernel
theorem dX4_open_47 : decode cX4_open 47 = .ok (.iconst 0, 1) := by decide +kernel
theorem dX4_open_48 : decode cX4_open 48 = .ok (.invokespecial 80, 3) := by decide +kernel
theorem dX4_open_51 : decode cX4_open 51 = .ok (.invokevirtual 83, 3) := by decide +kernel
theorem dX4_open_54 : decode cX4_open 54 = .ok (.ireturn, 1) := by decide +kernel
set_option maxRecDepth 20000 in
theorem ggX4_add_X4_existingSale : GoodIn wsX4_add wsX4_existingSale := goodIn_ca (goodIn_r _ [14, 15, 16, 17, 18, 19, 13, 20, 21, 60, 61, 62, 63, 64, 65] (by decide +kernel) (by decide +kernel)) (goodIn_sub (fun _ h => List.mem_cons_of_mem _ (List.mem_append_right _ h)) (by decide +kernel))
set_option maxRecDepth 20000 in
theorem gX4_add_X4_existingSale : GoodIn wsX4_add (wsV RX4 87 RX4 yX4_existingSale wsX4_existingSale) := goodIn_app (goodIn_of _ (by decide +kernel)) ggX4_add_X4_existingSale
set_option maxRecDepth 20000 in
theorem ggX4_add_X4_productAt : GoodIn wsX4_add wsX4_productAt := goodIn_r _ [25, 26, 60, 61, 62, 63, 64, 65] (by decide +kernel) (by decide +kernel)
set_option maxRecDepth 20000 in
theorem gX4_add_X4_productAt : GoodIn wsX4_add (wsV RX4 29 RX4 yX4_productAt wsX4_productAt) := goodIn_app (goodIn_of _ (by decide +kernel)) ggX4_add_X4_productAt
set_option maxRecDepth 20000 in
theorem ggX4_add_X4_isUnits : GoodIn wsX4_add wsX4_isUnits := goodIn_r _ [29] (by decide +kernel) (by decide +kernel)
set_option maxRecDepth 20000 in
theorem gX4_add_X4_isUnits : GoodIn wsX4_add (va_wsS RX4 91 yX4_isUnits wsX4_isUnits) := goodIn_app (goodIn_of _ (by decide +kernel)) ggX4_add_X4_isUnits
set_option maxRecDepth 20000 in
theorem ggX4_add_X1_init : GoodIn wsX4_add wsX1_init := goodIn_r _ [32, 33, 34, 35, 36, 37, 38, 39, 56, 57, 58, 59, 66, 67, 68, 69] (by decide +kernel) (by decide +kernel)
set_option maxRecDepth 20000 in
theorem gX4_add_X1_init : GoodIn wsX4_add (wsX1_init) := ggX4_add_X1_init
set_option maxRecDepth 20000 in
theorem ggX4_add_X3_append : GoodIn wsX4_add wsX3_append := goodIn_r _ [44, 45, 46, 47, 48, 49, 50, 51, 52, 53, 54, 55] (by decide +kernel) (by decide +kernel)
set_option maxRecDepth 20000 in
theorem gX4_add_X3_append : GoodIn wsX4_add (wsV RX4 110 RX3 yX3_append wsX3_append) := goodIn_app (goodIn_of _ (by decide +kernel)) ggX4_add_X3_append
theorem dX4_add_0 : decode cX4_add 0 = .ok (.aload_n 0, 1) := by decide +kernel
theorem dX4_add_1 : decode cX4_add 1 = .ok (.iload_n 1, 1) := by decide +kernel
theorem dX4_add_2 : decode cX4_add 2 = .ok (.invokevirtual 87, 3) := by decide +kernel
theorem dX4_add_5 : decode cX4_add 5 = .ok (.astore 4, 2) := by decide +kernel
theorem dX4_add_7 : decode cX4_add 7 = .ok (.aload_n 0, 1) := by decide +kernel
theorem dX4_add_8 : decode cX4_add 8 = .ok (.iload_n 2, 1) := by decide +kernel
theorem dX4_add_9 : decode cX4_add 9 = .ok (.invokevirtual 29, 3) := by decide +kernel
theorem dX4_add_12 : decode cX4_add 12 = .ok (.astore 5, 2) := by decide +kernel
theorem dX4_add_14 : decode cX4_add 14 = .ok (.aload 5, 2) := by decide +kernel
theorem dX4_add_16 : decode cX4_add 16 = .ok (.ifnull 10, 3) := by decide +kernel
theorem dX4_add_19 : decode cX4_add 19 = .ok (.iload_n 3, 1) := by decide +kernel
theorem dX4_add_20 : decode cX4_add 20 = .ok (.invokestatic 91, 3) := by decide +kernel
theorem dX4_add_23 : decode cX4_add 23 = .ok (.ifCond .ne 13, 3) := by decide +kernel
theorem dX4_add_26 : decode cX4_add 26 = .ok (.new 38, 3) := by decide +kernel
theorem dX4_add_29 : decode cX4_add 29 = .ok (.dup, 1) := by decide +kernel
theorem dX4_add_30 : decode cX4_add 30 = .ok (.ldc 94, 2) := by decide +kernel
theorem dX4_add_32 : decode cX4_add 32 = .ok (.invokespecial 42, 3) := by decide +kernel
theorem dX4_add_35 : decode cX4_add 35 = .ok (.athrow, 1) := by decide +kernel
theorem dX4_add_36 : decode cX4_add 36 = .ok (.aload 4, 2) := by decide +kernel
theorem dX4_add_38 : decode cX4_add 38 = .ok (.getfield 96, 3) := by decide +kernel
theorem dX4_add_41 : decode cX4_add 41 = .ok (.ifCond .ne 13, 3) := by decide +kernel
theorem dX4_add_44 : decode cX4_add 44 = .ok (.aload 4, 2) := by decide +kernel
theorem dX4_add_46 : decode cX4_add 46 = .ok (.getfield 100, 3) := by decide +kernel
theorem dX4_add_49 : decode cX4_add 49 = .ok (.bipush 6, 2) := by decide +kernel
theorem dX4_add_51 : decode cX4_add 51 = .ok (.if_icmp .lt 13, 3) := by decide +kernel
theorem dX4_add_54 : decode cX4_add 54 = .ok (.new 60, 3) := by decide +kernel
theorem dX4_add_57 : decode cX4_add 57 = .ok (.dup, 1) := by decide +kernel
theorem dX4_add_58 : decode cX4_add 58 = .ok (.ldc 103, 2) := by decide +kernel
theorem dX4_add_60 : decode cX4_add 60 = .ok (.invokespecial 64, 3) := by decide +kernel
theorem dX4_add_63 : decode cX4_add 63 = .ok (.athrow, 1) := by decide +kernel
theorem dX4_add_64 : decode cX4_add 64 = .ok (.aload 4, 2) := by decide +kernel
theorem dX4_add_66 : decode cX4_add 66 = .ok (.new 105, 3) := by decide +kernel
theorem dX4_add_69 : decode cX4_add 69 = .ok (.dup, 1) := by decide +kernel
theorem dX4_add_70 : decode cX4_add 70 = .ok (.aload 5, 2) := by decide +kernel
theorem dX4_add_72 : decode cX4_add 72 = .ok (.iload_n 3, 1) := by decide +kernel
theorem dX4_add_73 : decode cX4_add 73 = .ok (.invokespecial 107, 3) := by decide +kernel
theorem dX4_add_76 : decode cX4_add 76 = .ok (.invokevirtual 110, 3) := by decide +kernel
theorem dX4_add_79 : decode cX4_add 79 = .ok (.ireturn, 1) := by decide +kernel
set_option maxRecDepth 20000 in
theorem ggX4_pay_X4_existingSale : GoodIn wsX4_pay wsX4_existingSale := goodIn_ca (goodIn_r _ [11, 12, 13, 14, 15, 16, 10, 17, 18, 54, 55, 56, 57, 58, 59] (by decide +kernel) (by decide +kernel)) (goodIn_sub (fun _ h => List.mem_cons_of_mem _ (List.mem_append_right _ h)) (by decide +kernel))
set_option maxRecDepth 20000 in
theorem gX4_pay_X4_existingSale : GoodIn wsX4_pay (wsV RX4 87 RX4 yX4_existingSale wsX4_existingSale) := goodIn_app (goodIn_of _ (by decide +kernel)) ggX4_pay_X4_existingSale
set_option maxRecDepth 20000 in
theorem ggX4_pay_X3_settle : GoodIn wsX4_pay wsX3_settle := goodIn_r _ [23, 24, 25, 26, 27, 28, 29, 30, 31, 32, 22, 33, 34, 35, 36, 37, 38, 39, 40, 10, 41, 42, 43, 44, 45, 46, 47, 48, 49, 50, 51, 52, 53, 60, 61, 62, 63] (by decide +kernel) (by decide +kernel)
set_option maxRecDepth 20000 in
theorem gX4_pay_X3_settle : GoodIn wsX4_pay (wsV RX4 116 RX3 yX3_settle wsX3_settle) := goodIn_app (goodIn_of _ (by decide +kernel)) ggX4_pay_X3_settle
theorem dX4_pay_0 : decode cX4_pay 0 = .ok (.aload_n 0, 1) := by decide +kernel
theorem dX4_pay_1 : decode cX4_pay 1 = .ok (.iload_n 1, 1) := by decide +kernel
theorem dX4_pay_2 : decode cX4_pay 2 = .ok (.invokevirtual 87, 3) := by decide +kernel
theorem dX4_pay_5 : decode cX4_pay 5 = .ok (.astore_n 2, 1) := by decide +kernel
theorem dX4_pay_6 : decode cX4_pay 6 = .ok (.aload_n 2, 1) := by decide +kernel
theorem dX4_pay_7 : decode cX4_pay 7 = .ok (.getfield 96, 3) := by decide +kernel
theorem dX4_pay_10 : decode cX4_pay 10 = .ok (.ifCond .ne 10, 3) := by decide +kernel
theorem dX4_pay_13 : decode cX4_pay 13 = .ok (.aload_n 2, 1) := by decide +kernel
theorem dX4_pay_14 : decode cX4_pay 14 = .ok (.getfield 100, 3) := by decide +kernel
theorem dX4_pay_17 : decode cX4_pay 17 = .ok (.ifCond .ne 13, 3) := by decide +kernel
theorem dX4_pay_20 : decode cX4_pay 20 = .ok (.new 60, 3) := by decide +kernel
theorem dX4_pay_23 : decode cX4_pay 23 = .ok (.dup, 1) := by decide +kernel
theorem dX4_pay_24 : decode cX4_pay 24 = .ok (.ldc 114, 2) := by decide +kernel
theorem dX4_pay_26 : decode cX4_pay 26 = .ok (.invokespecial 64, 3) := by decide +kernel
theorem dX4_pay_29 : decode cX4_pay 29 = .ok (.athrow, 1) := by decide +kernel
theorem dX4_pay_30 : decode cX4_pay 30 = .ok (.aload_n 2, 1) := by decide +kernel
theorem dX4_pay_31 : decode cX4_pay 31 = .ok (.aload_n 0, 1) := by decide +kernel
theorem dX4_pay_32 : decode cX4_pay 32 = .ok (.getfield 57, 3) := by decide +kernel
theorem dX4_pay_35 : decode cX4_pay 35 = .ok (.invokevirtual 116, 3) := by decide +kernel
theorem dX4_pay_38 : decode cX4_pay 38 = .ok (.aload_n 2, 1) := by decide +kernel
theorem dX4_pay_39 : decode cX4_pay 39 = .ok (.getfield 120, 3) := by decide +kernel
theorem dX4_pay_42 : decode cX4_pay 42 = .ok (.ireturn, 1) := by decide +kernel
theorem dX4_sales_0 : decode cX4_sales 0 = .ok (.aload_n 0, 1) := by decide +kernel
theorem dX4_sales_1 : decode cX4_sales 1 = .ok (.getfield 77, 3) := by decide +kernel
theorem dX4_sales_4 : decode cX4_sales 4 = .ok (.ireturn, 1) := by decide +kernel
set_option maxRecDepth 20000 in
theorem ggX4_paid_X4_existingSale : GoodIn wsX4_paid wsX4_existingSale := goodIn_ca (goodIn_r _ [6, 7, 8, 9, 10, 11, 5, 12, 13, 23, 24, 25, 26, 27, 28] (by decide +kernel) (by decide +kernel)) (goodIn_sub (fun _ h => List.mem_cons_of_mem _ (List.mem_append_right _ h)) (by decide +kernel))
set_option maxRecDepth 20000 in
theorem gX4_paid_X4_existingSale : GoodIn wsX4_paid (wsV RX4 87 RX4 yX4_existingSale wsX4_existingSale) := goodIn_app (goodIn_of _ (by decide +kernel)) ggX4_paid_X4_existingSale
theorem dX4_paid_0 : decode cX4_paid 0 = .ok (.aload_n 0, 1) := by decide +kernel
theorem dX4_paid_1 : decode cX4_paid 1 = .ok (.iload_n 1, 1) := by decide +kernel
theorem dX4_paid_2 : decode cX4_paid 2 = .ok (.invokevirtual 87, 3) := by decide +kernel
theorem dX4_paid_5 : decode cX4_paid 5 = .ok (.getfield 120, 3) := by decide +kernel
theorem dX4_paid_8 : decode cX4_paid 8 = .ok (.ireturn, 1) := by decide +kernel
set_option maxRecDepth 20000 in
theorem ggX4_kept_X4_existingLine : GoodIn wsX4_kept wsX4_existingLine := goodIn_ca (goodIn_r _ [6, 7, 8, 9, 10, 11, 5, 12, 13, 14, 15, 16, 17, 18, 19, 20, 21, 22, 23, 28, 29, 30, 31, 32, 33, 34, 35, 36, 37, 38, 39, 40, 41, 42] (by decide +kernel) (by decide +kernel)) (goodIn_sub (fun _ h => List.mem_cons_of_mem _ (List.mem_append_right _ h)) (by decide +kernel))
set_option maxRecDepth 20000 in
theorem gX4_kept_X4_existingLine : GoodIn wsX4_kept (wsV RX4 123 RX4 yX4_existingLine wsX4_existingLine) := goodIn_app (goodIn_of _ (by decide +kernel)) ggX4_kept_X4_existingLine
theorem dX4_kept_0 : decode cX4_kept 0 = .ok (.aload_n 0, 1) := by decide +kernel
theorem dX4_kept_1 : decode cX4_kept 1 = .ok (.iload_n 1, 1) := by decide +kernel
theorem dX4_kept_2 : decode cX4_kept 2 = .ok (.iload_n 2, 1) := by decide +kernel
theorem dX4_kept_3 : decode cX4_kept 3 = .ok (.invokevirtual 123, 3) := by decide +kernel
theorem dX4_kept_6 : decode cX4_kept 6 = .ok (.getfield 127, 3) := by decide +kernel
theorem dX4_kept_9 : decode cX4_kept 9 = .ok (.ireturn, 1) := by decide +kernel
set_option maxRecDepth 20000 in
theorem ggX4_keptValue_X4_existingSale : GoodIn wsX4_keptValue wsX4_existingSale := goodIn_ca (goodIn_r _ [5, 6, 7, 8, 9, 10, 4, 11, 12, 32, 33, 34, 35, 36, 37] (by decide +kernel) (by decide +kernel)) (goodIn_sub (fun _ h => List.mem_cons_of_mem _ (List.mem_append_right _ h)) (by decide +kernel))
set_option maxRecDepth 20000 in
theorem gX4_keptValue_X4_existingSale : GoodIn wsX4_keptValue (wsV RX4 87 RX4 yX4_existingSale wsX4_existingSale) := goodIn_app (goodIn_of _ (by decide +kernel)) ggX4_keptValue_X4_existingSale
set_option maxRecDepth 20000 in
theorem ggX4_keptValue_X3_keptGoods : GoodIn wsX4_keptValue wsX3_keptGoods := goodIn_r _ [17, 18, 19, 20, 21, 22, 23, 24, 25, 38, 39, 40, 41, 42, 43, 44, 45, 46, 47, 48, 49, 50] (by decide +kernel) (by decide +kernel)
set_option maxRecDepth 20000 in
theorem gX4_keptValue_X3_keptGoods : GoodIn wsX4_keptValue (wsV RX4 130 RX3 yX3_keptGoods wsX3_keptGoods) := goodIn_app (goodIn_of _ (by decide +kernel)) ggX4_keptValue_X3_keptGoods
set_option maxRecDepth 20000 in
theorem ggX4_keptValue_X4_netOf : GoodIn wsX4_keptValue wsX4_netOf := goodIn_r _ [28, 29, 30, 4, 31] (by decide +kernel) (by decide +kernel)
set_option maxRecDepth 20000 in
theorem gX4_keptValue_X4_netOf : GoodIn wsX4_keptValue (va_wsS RX4 134 yX4_netOf wsX4_netOf) := goodIn_app (goodIn_of _ (by decide +kernel)) ggX4_keptValue_X4_netOf
theorem dX4_keptValue_0 : decode cX4_keptValue 0 = .ok (.aload_n 0, 1) := by decide +kernel
theorem dX4_keptValue_1 : decode cX4_keptValue 1 = .ok (.iload_n 1, 1) := by decide +kernel
theorem dX4_keptValue_2 : decode cX4_keptValue 2 = .ok (.invokevirtual 87, 3) := by decide +kernel
theorem dX4_keptValue_5 : decode cX4_keptValue 5 = .ok (.invokevirtual 130, 3) := by decide +kernel
theorem dX4_keptValue_8 : decode cX4_keptValue 8 = .ok (.invokestatic 134, 3) := by decide +kernel
theorem dX4_keptValue_11 : decode cX4_keptValue 11 = .ok (.ireturn, 1) := by decide +kernel
set_option maxRecDepth 20000 in
theorem ggX4_lineValue_X4_existingSale : GoodIn wsX4_lineValue wsX4_existingSale := goodIn_ca (goodIn_r _ [7, 1, 2, 8, 9, 10, 6, 11, 12, 53, 54, 55, 56, 57, 58] (by decide +kernel) (by decide +kernel)) (goodIn_sub (fun _ h => List.mem_cons_of_mem _ (List.mem_append_right _ h)) (by decide +kernel))
set_option maxRecDepth 20000 in
theorem gX4_lineValue_X4_existingSale : GoodIn wsX4_lineValue (wsV RX4 87 RX4 yX4_existingSale wsX4_existingSale) := goodIn_app (goodIn_of _ (by decide +kernel)) ggX4_lineValue_X4_existingSale
set_option maxRecDepth 20000 in
theorem ggX4_lineValue_X3_lineAt : GoodIn wsX4_lineValue wsX3_lineAt := goodIn_r _ [17, 18, 59, 60, 61, 62, 63, 64, 65, 66, 67] (by decide +kernel) (by decide +kernel)
set_option maxRecDepth 20000 in
theorem gX4_lineValue_X3_lineAt : GoodIn wsX4_lineValue (wsV RX4 138 RX3 yX3_lineAt wsX3_lineAt) := goodIn_app (goodIn_of _ (by decide +kernel)) ggX4_lineValue_X3_lineAt
set_option maxRecDepth 20000 in
theorem ggX4_lineValue_X3_shareOf : GoodIn wsX4_lineValue wsX3_shareOf := goodIn_r _ [22, 18, 23, 24, 25, 16, 26, 27, 28, 29, 30, 31, 32, 33, 34, 6, 35, 36, 37, 38, 39, 40, 41, 42, 43, 14, 15, 17, 44, 45, 46, 47, 48, 49, 50, 51, 52, 59, 60, 61, 62, 63, 64, 65, 66, 67, 68, 69, 70, 71] (by decide +kernel) (by decide +kernel)
set_option maxRecDepth 20000 in
theorem gX4_lineValue_X3_shareOf : GoodIn wsX4_lineValue (wsV RX4 147 RX3 yX3_shareOf wsX3_shareOf) := goodIn_app (goodIn_of _ (by decide +kernel)) ggX4_lineValue_X3_shareOf
theorem dX4_lineValue_0 : decode cX4_lineValue 0 = .ok (.aload_n 0, 1) := by decide +kernel
theorem dX4_lineValue_1 : decode cX4_lineValue 1 = .ok (.iload_n 1, 1) := by decide +kernel
theorem dX4_lineValue_2 : decode cX4_lineValue 2 = .ok (.invokevirtual 87, 3) := by decide +kernel
theorem dX4_lineValue_5 : decode cX4_lineValue 5 = .ok (.astore_n 3, 1) := by decide +kernel
theorem dX4_lineValue_6 : decode cX4_lineValue 6 = .ok (.aload_n 3, 1) := by decide +kernel
theorem dX4_lineValue_7 : decode cX4_lineValue 7 = .ok (.iload_n 2, 1) := by decide +kernel
theorem dX4_lineValue_8 : decode cX4_lineValue 8 = .ok (.invokevirtual 138, 3) := by decide +kernel
theorem dX4_lineValue_11 : decode cX4_lineValue 11 = .ok (.ifnonnull 13, 3) := by decide +kernel
theorem dX4_lineValue_14 : decode cX4_lineValue 14 = .ok (.new 142, 3) := by decide +kernel
theorem dX4_lineValue_17 : decode cX4_lineValue 17 = .ok (.dup, 1) := by decide +kernel
theorem dX4_lineValue_18 : decode cX4_lineValue 18 = .ok (.ldc 144, 2) := by decide +kernel
theorem dX4_lineValue_20 : decode cX4_lineValue 20 = .ok (.invokespecial 146, 3) := by decide +kernel
theorem dX4_lineValue_23 : decode cX4_lineValue 23 = .ok (.athrow, 1) := by decide +kernel
theorem dX4_lineValue_24 : decode cX4_lineValue 24 = .ok (.aload_n 3, 1) := by decide +kernel
theorem dX4_lineValue_25 : decode cX4_lineValue 25 = .ok (.iload_n 2, 1) := by decide +kernel
theorem dX4_lineValue_26 : decode cX4_lineValue 26 = .ok (.invokevirtual 147, 3) := by decide +kernel
theorem dX4_lineValue_29 : decode cX4_lineValue 29 = .ok (.ireturn, 1) := by decide +kernel
set_option maxRecDepth 20000 in
theorem ggX4_giveBack_X4_existingLine : GoodIn wsX4_giveBack wsX4_existingLine := goodIn_ca (goodIn_r _ [11, 12, 13, 14, 15, 16, 10, 17, 18, 19, 20, 21, 22, 23, 24, 25, 26, 27, 28, 145, 146, 147, 148, 149, 150, 136, 137, 138, 139, 140, 141, 142, 143, 144] (by decide +kernel) (by decide +kernel)) (goodIn_sub (fun _ h => List.mem_cons_of_mem _ (List.mem_append_right _ h)) (by decide +kernel))
set_option maxRecDepth 20000 in
theorem gX4_giveBack_X4_existingLine : GoodIn wsX4_giveBack (wsV RX4 123 RX4 yX4_existingLine wsX4_existingLine) := goodIn_app (goodIn_of _ (by decide +kernel)) ggX4_giveBack_X4_existingLine
set_option maxRecDepth 20000 in
theorem ggX4_giveBack_X4_existingSale : GoodIn wsX4_giveBack wsX4_existingSale := goodIn_ca (goodIn_r _ [17, 12, 13, 18, 19, 20, 10, 21, 22, 145, 146, 147, 148, 149, 150] (by decide +kernel) (by decide +kernel)) (goodIn_sub (fun _ h => List.mem_cons_of_mem _ (List.mem_append_right _ h)) (by decide +kernel))
set_option maxRecDepth 20000 in
theorem gX4_giveBack_X4_existingSale : GoodIn wsX4_giveBack (wsV RX4 87 RX4 yX4_existingSale wsX4_existingSale) := goodIn_app (goodIn_of _ (by decide +kernel)) ggX4_giveBack_X4_existingSale
set_option maxRecDepth 20000 in
theorem ggX4_giveBack_X4_isUnits : GoodIn wsX4_giveBack wsX4_isUnits := goodIn_r _ [31] (by decide +kernel) (by decide +kernel)
set_option maxRecDepth 20000 in
theorem gX4_giveBack_X4_isUnits : GoodIn wsX4_giveBack (va_wsS RX4 91 yX4_isUnits wsX4_isUnits) := goodIn_app (goodIn_of _ (by decide +kernel)) ggX4_giveBack_X4_isUnits
set_option maxRecDepth 20000 in
theorem ggX4_giveBack_X4_isCondition : GoodIn wsX4_giveBack wsX4_isCondition := goodIn_r _ [34] (by decide +kernel) (by decide +kernel)
set_option maxRecDepth 20000 in
theorem gX4_giveBack_X4_isCondition : GoodIn wsX4_giveBack (va_wsS RX4 150 yX4_isCondition wsX4_isCondition) := goodIn_app (goodIn_of _ (by decide +kernel)) ggX4_giveBack_X4_isCondition
set_option maxRecDepth 20000 in
theorem ggX4_giveBack_X4_canComeBack : GoodIn wsX4_giveBack wsX4_canComeBack := goodIn_r _ [38, 39, 40, 41, 42, 43, 10, 44, 45, 46, 136, 137, 138, 139, 140, 141, 142, 143, 144, 151, 152, 153, 154, 145, 146, 147, 148, 149, 150] (by decide +kernel) (by decide +kernel)
set_option maxRecDepth 20000 in
theorem gX4_giveBack_X4_canComeBack : GoodIn wsX4_giveBack (wsV RX4 155 RX4 yX4_canComeBack wsX4_canComeBack) := goodIn_app (goodIn_of _ (by decide +kernel)) ggX4_giveBack_X4_canComeBack
set_option maxRecDepth 20000 in
theorem ggX4_giveBack_X4_isBlocked : GoodIn wsX4_giveBack wsX4_isBlocked := goodIn_r _ [50, 45, 51, 52, 53, 54, 55, 56, 57, 58, 59, 145, 146, 147, 148, 149, 150, 155, 156, 157, 158] (by decide +kernel) (by decide +kernel)
set_option maxRecDepth 20000 in
theorem gX4_giveBack_X4_isBlocked : GoodIn wsX4_giveBack (wsV RX4 163 RX4 yX4_isBlocked wsX4_isBlocked) := goodIn_app (goodIn_of _ (by decide +kernel)) ggX4_giveBack_X4_isBlocked
set_option maxRecDepth 20000 in
theorem ggX4_giveBack_X4_takeBack : GoodIn wsX4_giveBack wsX4_takeBack := goodIn_r _ [63, 64, 40, 65, 5, 45, 66, 67, 68, 26, 69, 70, 71, 72, 73, 74, 75, 76, 77, 78, 79, 28, 80, 81, 82, 83, 84, 85, 86, 87, 10, 88, 89, 90, 91, 92, 93, 94, 95, 96, 97, 98, 99, 100, 101, 102, 103, 104, 105, 106, 107, 108, 109, 110, 111, 112, 113, 114, 115, 116, 117, 118, 119, 120, 121, 122, 123, 124, 125, 126, 127, 54, 128, 56, 57, 58, 59, 129, 130, 131, 132, 136, 137, 138, 139, 140, 141, 142, 143, 144, 151, 152, 153, 154, 145, 146, 147, 148, 149, 150, 159, 160, 161, 162, 155, 156, 157, 158] (by decide +kernel) (by decide +kernel)
set_option maxRecDepth 20000 in
theorem gX4_giveBack_X4_takeBack : GoodIn wsX4_giveBack (wsV RX4 169 RX4 yX4_takeBack wsX4_takeBack) := goodIn_app (goodIn_of _ (by decide +kernel)) ggX4_giveBack_X4_takeBack
set_option maxRecDepth 20000 in
theorem ggX4_giveBack_X4_ageOf : GoodIn wsX4_giveBack wsX4_ageOf := goodIn_r _ [44, 45, 46, 145, 146, 147, 148, 149, 150, 136, 137, 138, 139, 140, 141, 142, 143, 144] (by decide +kernel) (by decide +kernel)
set_option maxRecDepth 20000 in
theorem gX4_giveBack_X4_ageOf : GoodIn wsX4_giveBack (wsV RX4 173 RX4 yX4_ageOf wsX4_ageOf) := goodIn_app (goodIn_of _ (by decide +kernel)) ggX4_giveBack_X4_ageOf
set_option maxRecDepth 20000 in
theorem ggX4_giveBack_X4_feeOn : GoodIn wsX4_giveBack wsX4_feeOn := goodIn_r _ [135] (by decide +kernel) (by decide +kernel)
set_option maxRecDepth 20000 in
theorem gX4_giveBack_X4_feeOn : GoodIn wsX4_giveBack (va_wsS RX4 176 yX4_feeOn wsX4_feeOn) := goodIn_app (goodIn_of _ (by decide +kernel)) ggX4_giveBack_X4_feeOn
theorem dX4_giveBack_0 : decode cX4_giveBack 0 = .ok (.aload_n 0, 1) := by decide +kernel
theorem dX4_giveBack_1 : decode cX4_giveBack 1 = .ok (.iload_n 1, 1) := by decide +kernel
theorem dX4_giveBack_2 : decode cX4_giveBack 2 = .ok (.iload_n 2, 1) := by decide +kernel
theorem dX4_giveBack_3 : decode cX4_giveBack 3 = .ok (.invokevirtual 123, 3) := by decide +kernel
theorem dX4_giveBack_6 : decode cX4_giveBack 6 = .ok (.astore 5, 2) := by decide +kernel
theorem dX4_giveBack_8 : decode cX4_giveBack 8 = .ok (.aload_n 0, 1) := by decide +kernel
theorem dX4_giveBack_9 : decode cX4_giveBack 9 = .ok (.iload_n 1, 1) := by decide +kernel
theorem dX4_giveBack_10 : decode cX4_giveBack 10 = .ok (.invokevirtual 87, 3) := by decide +kernel
theorem dX4_giveBack_13 : decode cX4_giveBack 13 = .ok (.astore 6, 2) := by decide +kernel
theorem dX4_giveBack_15 : decode cX4_giveBack 15 = .ok (.iload_n 3, 1) := by decide +kernel
theorem dX4_giveBack_16 : decode cX4_giveBack 16 = .ok (.invokestatic 91, 3) := by decide +kernel
theorem dX4_giveBack_19 : decode cX4_giveBack 19 = .ok (.ifCond .eq 11, 3) := by decide +kernel
theorem dX4_giveBack_22 : decode cX4_giveBack 22 = .ok (.iload 4, 2) := by decide +kernel
theorem dX4_giveBack_24 : decode cX4_giveBack 24 = .ok (.invokestatic 150, 3) := by decide +kernel
theorem dX4_giveBack_27 : decode cX4_giveBack 27 = .ok (.ifCond .ne 13, 3) := by decide +kernel
theorem dX4_giveBack_30 : decode cX4_giveBack 30 = .ok (.new 38, 3) := by decide +kernel
theorem dX4_giveBack_33 : decode cX4_giveBack 33 = .ok (.dup, 1) := by decide +kernel
theorem dX4_giveBack_34 : decode cX4_giveBack 34 = .ok (.ldc 153, 2) := by decide +kernel
theorem dX4_giveBack_36 : decode cX4_giveBack 36 = .ok (.invokespecial 42, 3) := by decide +kernel
theorem dX4_giveBack_39 : decode cX4_giveBack 39 = .ok (.athrow, 1) := by decide +kernel
theorem dX4_giveBack_40 : decode cX4_giveBack 40 = .ok (.aload_n 0, 1) := by decide +kernel
theorem dX4_giveBack_41 : decode cX4_giveBack 41 = .ok (.aload 6, 2) := by decide +kernel
theorem dX4_giveBack_43 : decode cX4_giveBack 43 = .ok (.aload 5, 2) := by decide +kernel
theorem dX4_giveBack_45 : decode cX4_giveBack 45 = .ok (.iload_n 3, 1) := by decide +kernel
theorem dX4_giveBack_46 : decode cX4_giveBack 46 = .ok (.invokevirtual 155, 3) := by decide +kernel
theorem dX4_giveBack_49 : decode cX4_giveBack 49 = .ok (.ifCond .eq 15, 3) := by decide +kernel
theorem dX4_giveBack_52 : decode cX4_giveBack 52 = .ok (.aload_n 0, 1) := by decide +kernel
theorem dX4_giveBack_53 : decode cX4_giveBack 53 = .ok (.aload 6, 2) := by decide +kernel
theorem dX4_giveBack_55 : decode cX4_giveBack 55 = .ok (.getfield 159, 3) := by decide +kernel
theorem dX4_giveBack_58 : decode cX4_giveBack 58 = .ok (.invokevirtual 163, 3) := by decide +kernel
theorem dX4_giveBack_61 : decode cX4_giveBack 61 = .ok (.ifCond .eq 13, 3) := by decide +kernel
theorem dX4_giveBack_64 : decode cX4_giveBack 64 = .ok (.new 60, 3) := by decide +kernel
theorem dX4_giveBack_67 : decode cX4_giveBack 67 = .ok (.dup, 1) := by decide +kernel
theorem dX4_giveBack_68 : decode cX4_giveBack 68 = .ok (.ldc 167, 2) := by decide +kernel
theorem dX4_giveBack_70 : decode cX4_giveBack 70 = .ok (.invokespecial 64, 3) := by decide +kernel
theorem dX4_giveBack_73 : decode cX4_giveBack 73 = .ok (.athrow, 1) := by decide +kernel
theorem dX4_giveBack_74 : decode cX4_giveBack 74 = .ok (.aload_n 0, 1) := by decide +kernel
theorem dX4_giveBack_75 : decode cX4_giveBack 75 = .ok (.aload 6, 2) := by decide +kernel
theorem dX4_giveBack_77 : decode cX4_giveBack 77 = .ok (.aload 5, 2) := by decide +kernel
theorem dX4_giveBack_79 : decode cX4_giveBack 79 = .ok (.iload_n 3, 1) := by decide +kernel
theorem dX4_giveBack_80 : decode cX4_giveBack 80 = .ok (.iload 4, 2) := by decide +kernel
theorem dX4_giveBack_82 : decode cX4_giveBack 82 = .ok (.iconst 0, 1) := by decide +kernel
theorem dX4_giveBack_83 : decode cX4_giveBack 83 = .ok (.invokevirtual 169, 3) := by decide +kernel
theorem dX4_giveBack_86 : decode cX4_giveBack 86 = .ok (.istore 7, 2) := by decide +kernel
theorem dX4_giveBack_88 : decode cX4_giveBack 88 = .ok (.iload 7, 2) := by decide +kernel
theorem dX4_giveBack_90 : decode cX4_giveBack 90 = .ok (.aload_n 0, 1) := by decide +kernel
theorem dX4_giveBack_91 : decode cX4_giveBack 91 = .ok (.aload 6, 2) := by decide +kernel
theorem dX4_giveBack_93 : decode cX4_giveBack 93 = .ok (.invokevirtual 173, 3) := by decide +kernel
theorem dX4_giveBack_96 : decode cX4_giveBack 96 = .ok (.iload 4, 2) := by decide +kernel
theorem dX4_giveBack_98 : decode cX4_giveBack 98 = .ok (.invokestatic 176, 3) := by decide +kernel
theorem dX4_giveBack_101 : decode cX4_giveBack 101 = .ok (.istore 8, 2) := by decide +kernel
theorem dX4_giveBack_103 : decode cX4_giveBack 103 = .ok (.aload_n 0, 1) := by decide +kernel
theorem dX4_giveBack_104 : decode cX4_giveBack 104 = .ok (.dup, 1) := by decide +kernel
theorem dX4_giveBack_105 : decode cX4_giveBack 105 = .ok (.getfield 180, 3) := by decide +kernel
theorem dX4_giveBack_108 : decode cX4_giveBack 108 = .ok (.iload 8, 2) := by decide +kernel
theorem dX4_giveBack_110 : decode cX4_giveBack 110 = .ok (.iadd, 1) := by decide +kernel
theorem dX4_giveBack_111 : decode cX4_giveBack 111 = .ok (.putfield 180, 3) := by decide +kernel
theorem dX4_giveBack_114 : decode cX4_giveBack 114 = .ok (.iload 7, 2) := by decide +kernel
theorem dX4_giveBack_116 : decode cX4_giveBack 116 = .ok (.iload 8, 2) := by decide +kernel
theorem dX4_giveBack_118 : decode cX4_giveBack 118 = .ok (.isub, 1) := by decide +kernel
theorem dX4_giveBack_119 : decode cX4_giveBack 119 = .ok (.ireturn, 1) := by decide +kernel
set_option maxRecDepth 20000 in
theorem ggX4_exchange_X4_existingLine : GoodIn wsX4_exchange wsX4_existingLine := goodIn_ca (goodIn_r _ [20, 21, 22, 23, 24, 25, 19, 26, 27, 28, 29, 30, 31, 32, 33, 34, 9, 35, 36, 195, 196, 197, 198, 199, 200, 182, 183, 184, 185, 186, 187, 188, 189, 190] (by decide +kernel) (by decide +kernel)) (goodIn_sub (fun _ h => List.mem_cons_of_mem _ (List.mem_append_right _ h)) (by decide +kernel))
set_option maxRecDepth 20000 in
theorem gX4_exchange_X4_existingLine : GoodIn wsX4_exchange (wsV RX4 123 RX4 yX4_existingLine wsX4_existingLine) := goodIn_app (goodIn_of _ (by decide +kernel)) ggX4_exchange_X4_existingLine
set_option maxRecDepth 20000 in
theorem ggX4_exchange_X4_existingSale : GoodIn wsX4_exchange wsX4_existingSale := goodIn_ca (goodIn_r _ [26, 21, 22, 27, 28, 29, 19, 30, 31, 195, 196, 197, 198, 199, 200] (by decide +kernel) (by decide +kernel)) (goodIn_sub (fun _ h => List.mem_cons_of_mem _ (List.mem_append_right _ h)) (by decide +kernel))
set_option maxRecDepth 20000 in
theorem gX4_exchange_X4_existingSale : GoodIn wsX4_exchange (wsV RX4 87 RX4 yX4_existingSale wsX4_existingSale) := goodIn_app (goodIn_of _ (by decide +kernel)) ggX4_exchange_X4_existingSale
set_option maxRecDepth 20000 in
theorem ggX4_exchange_X4_productAt : GoodIn wsX4_exchange wsX4_productAt := goodIn_r _ [40, 41, 195, 196, 197, 198, 199, 200] (by decide +kernel) (by decide +kernel)
set_option maxRecDepth 20000 in
theorem gX4_exchange_X4_productAt : GoodIn wsX4_exchange (wsV RX4 29 RX4 yX4_productAt wsX4_productAt) := goodIn_app (goodIn_of _ (by decide +kernel)) ggX4_exchange_X4_productAt
set_option maxRecDepth 20000 in
theorem ggX4_exchange_X4_isUnits : GoodIn wsX4_exchange wsX4_isUnits := goodIn_r _ [44] (by decide +kernel) (by decide +kernel)
set_option maxRecDepth 20000 in
theorem gX4_exchange_X4_isUnits : GoodIn wsX4_exchange (va_wsS RX4 91 yX4_isUnits wsX4_isUnits) := goodIn_app (goodIn_of _ (by decide +kernel)) ggX4_exchange_X4_isUnits
set_option maxRecDepth 20000 in
theorem ggX4_exchange_X4_isCondition : GoodIn wsX4_exchange wsX4_isCondition := goodIn_r _ [47] (by decide +kernel) (by decide +kernel)
set_option maxRecDepth 20000 in
theorem gX4_exchange_X4_isCondition : GoodIn wsX4_exchange (va_wsS RX4 150 yX4_isCondition wsX4_isCondition) := goodIn_app (goodIn_of _ (by decide +kernel)) ggX4_exchange_X4_isCondition
set_option maxRecDepth 20000 in
theorem ggX4_exchange_X4_canComeBack : GoodIn wsX4_exchange wsX4_canComeBack := goodIn_r _ [51, 52, 53, 54, 55, 56, 19, 57, 58, 14, 182, 183, 184, 185, 186, 187, 188, 189, 190, 191, 192, 193, 194, 195, 196, 197, 198, 199, 200] (by decide +kernel) (by decide +kernel)
set_option maxRecDepth 20000 in
theorem gX4_exchange_X4_canComeBack : GoodIn wsX4_exchange (wsV RX4 155 RX4 yX4_canComeBack wsX4_canComeBack) := goodIn_app (goodIn_of _ (by decide +kernel)) ggX4_exchange_X4_canComeBack
set_option maxRecDepth 20000 in
theorem ggX4_exchange_X4_isBlocked : GoodIn wsX4_exchange wsX4_isBlocked := goodIn_r _ [62, 58, 63, 64, 65, 66, 67, 68, 69, 70, 71, 195, 196, 197, 198, 199, 200, 201, 202, 203, 204] (by decide +kernel) (by decide +kernel)
set_option maxRecDepth 20000 in
theorem gX4_exchange_X4_isBlocked : GoodIn wsX4_exchange (wsV RX4 163 RX4 yX4_isBlocked wsX4_isBlocked) := goodIn_app (goodIn_of _ (by decide +kernel)) ggX4_exchange_X4_isBlocked
set_option maxRecDepth 20000 in
theorem ggX4_exchange_X4_isRegisterFull : GoodIn wsX4_exchange wsX4_isRegisterFull := goodIn_r _ [75, 76, 31, 195, 196, 197, 198, 199, 200] (by decide +kernel) (by decide +kernel)
set_option maxRecDepth 20000 in
theorem gX4_exchange_X4_isRegisterFull : GoodIn wsX4_exchange (wsV RX4 71 RX4 yX4_isRegisterFull wsX4_isRegisterFull) := goodIn_app (goodIn_of _ (by decide +kernel)) ggX4_exchange_X4_isRegisterFull
set_option maxRecDepth 20000 in
theorem ggX4_exchange_X4_takeBack : GoodIn wsX4_exchange wsX4_takeBack := goodIn_r _ [80, 81, 53, 82, 5, 58, 83, 84, 85, 9, 86, 87, 88, 89, 90, 91, 92, 93, 94, 95, 96, 36, 97, 98, 99, 100, 13, 101, 102, 103, 19, 104, 105, 106, 107, 108, 109, 110, 111, 112, 113, 114, 115, 116, 117, 118, 119, 120, 121, 122, 123, 124, 125, 126, 127, 128, 129, 130, 131, 132, 133, 134, 135, 136, 137, 138, 139, 140, 141, 142, 143, 66, 144, 68, 69, 70, 71, 145, 146, 147, 148, 182, 183, 184, 185, 186, 187, 188, 189, 190, 191, 192, 193, 194, 195, 196, 197, 198, 199, 200, 205, 206, 207, 208, 201, 202, 203, 204] (by decide +kernel) (by decide +kernel)
set_option maxRecDepth 20000 in
theorem gX4_exchange_X4_takeBack : GoodIn wsX4_exchange (wsV RX4 169 RX4 yX4_takeBack wsX4_takeBack) := goodIn_app (goodIn_of _ (by decide +kernel)) ggX4_exchange_X4_takeBack
set_option maxRecDepth 20000 in
theorem ggX4_exchange_X3_init : GoodIn wsX4_exchange wsX3_init := goodIn_r _ [151, 152, 153, 154, 155, 36, 156, 157, 158, 182, 183, 184, 185, 186, 187, 188, 189, 190] (by decide +kernel) (by decide +kernel)
set_option maxRecDepth 20000 in
theorem gX4_exchange_X3_init : GoodIn wsX4_exchange (wsX3_init) := ggX4_exchange_X3_init
set_option maxRecDepth 20000 in
theorem ggX4_exchange_X1_init : GoodIn wsX4_exchange wsX1_init := goodIn_r _ [161, 162, 153, 154, 163, 164, 165, 102, 191, 192, 193, 194, 205, 206, 207, 208] (by decide +kernel) (by decide +kernel)
set_option maxRecDepth 20000 in
theorem gX4_exchange_X1_init : GoodIn wsX4_exchange (wsX1_init) := ggX4_exchange_X1_init
set_option maxRecDepth 20000 in
theorem ggX4_exchange_X3_append : GoodIn wsX4_exchange wsX3_append := goodIn_r _ [169, 170, 36, 182, 183, 184, 185, 186, 187, 188, 189, 190] (by decide +kernel) (by decide +kernel)
set_option maxRecDepth 20000 in
theorem gX4_exchange_X3_append : GoodIn wsX4_exchange (wsV RX4 110 RX3 yX3_append wsX3_append) := goodIn_app (goodIn_of _ (by decide +kernel)) ggX4_exchange_X3_append
set_option maxRecDepth 20000 in
theorem ggX4_exchange_X3_settle : GoodIn wsX4_exchange wsX3_settle := goodIn_r _ [174, 36, 175, 97, 176, 177, 87, 93, 94, 95, 9, 96, 98, 99, 100, 13, 101, 102, 103, 19, 104, 105, 106, 107, 182, 183, 184, 185, 186, 187, 188, 189, 190, 191, 192, 193, 194] (by decide +kernel) (by decide +kernel)
set_option maxRecDepth 20000 in
theorem gX4_exchange_X3_settle : GoodIn wsX4_exchange (wsV RX4 116 RX3 yX3_settle wsX3_settle) := goodIn_app (goodIn_of _ (by decide +kernel)) ggX4_exchange_X3_settle
set_option maxRecDepth 20000 in
theorem ggX4_exchange_X4_enter : GoodIn wsX4_exchange wsX4_enter := goodIn_r _ [181, 76, 31, 195, 196, 197, 198, 199, 200] (by decide +kernel) (by decide +kernel)
set_option maxRecDepth 20000 in
theorem gX4_exchange_X4_enter : GoodIn wsX4_exchange (wsV RX4 83 RX4 yX4_enter wsX4_enter) := goodIn_app (goodIn_of _ (by decide +kernel)) ggX4_exchange_X4_enter
theorem dX4_exchange_0 : decode cX4_exchange 0 = .ok (.aload_n 0, 1) := by decide +kernel
theorem dX4_exchange_1 : decode cX4_exchange 1 = .ok (.iload_n 1, 1) := by decide +kernel
theorem dX4_exchange_2 : decode cX4_exchange 2 = .ok (.iload_n 2, 1) := by decide +kernel
theorem dX4_exchange_3 : decode cX4_exchange 3 = .ok (.invokevirtual 123, 3) := by decide +kernel
theorem dX4_exchange_6 : decode cX4_exchange 6 = .ok (.astore 6, 2) := by decide +kernel
theorem dX4_exchange_8 : decode cX4_exchange 8 = .ok (.aload_n 0, 1) := by decide +kernel
theorem dX4_exchange_9 : decode cX4_exchange 9 = .ok (.iload_n 1, 1) := by decide +kernel
theorem dX4_exchange_10 : decode cX4_exchange 10 = .ok (.invokevirtual 87, 3) := by decide +kernel
theorem dX4_exchange_13 : decode cX4_exchange 13 = .ok (.astore 7, 2) := by decide +kernel
theorem dX4_exchange_15 : decode cX4_exchange 15 = .ok (.aload_n 0, 1) := by decide +kernel
theorem dX4_exchange_16 : decode cX4_exchange 16 = .ok (.iload 5, 2) := by decide +kernel
theorem dX4_exchange_18 : decode cX4_exchange 18 = .ok (.invokevirtual 29, 3) := by decide +kernel
theorem dX4_exchange_21 : decode cX4_exchange 21 = .ok (.astore 8, 2) := by decide +kernel
theorem dX4_exchange_23 : decode cX4_exchange 23 = .ok (.aload 8, 2) := by decide +kernel
theorem dX4_exchange_25 : decode cX4_exchange 25 = .ok (.ifnull 18, 3) := by decide +kernel
theorem dX4_exchange_28 : decode cX4_exchange 28 = .ok (.iload_n 3, 1) := by decide +kernel
theorem dX4_exchange_29 : decode cX4_exchange 29 = .ok (.invokestatic 91, 3) := by decide +kernel
theorem dX4_exchange_32 : decode cX4_exchange 32 = .ok (.ifCond .eq 11, 3) := by decide +kernel
theorem dX4_exchange_35 : decode cX4_exchange 35 = .ok (.iload 4, 2) := by decide +kernel
theorem dX4_exchange_37 : decode cX4_exchange 37 = .ok (.invokestatic 150, 3) := by decide +kernel
theorem dX4_exchange_40 : decode cX4_exchange 40 = .ok (.ifCond .ne 13, 3) := by decide +kernel
theorem dX4_exchange_43 : decode cX4_exchange 43 = .ok (.new 38, 3) := by decide +kernel
theorem dX4_exchange_46 : decode cX4_exchange 46 = .ok (.dup, 1) := by decide +kernel
theorem dX4_exchange_47 : decode cX4_exchange 47 = .ok (.ldc 183, 2) := by decide +kernel
theorem dX4_exchange_49 : decode cX4_exchange 49 = .ok (.invokespecial 42, 3) := by decide +kernel
theorem dX4_exchange_52 : decode cX4_exchange 52 = .ok (.athrow, 1) := by decide +kernel
theorem dX4_exchange_53 : decode cX4_exchange 53 = .ok (.aload_n 0, 1) := by decide +kernel
theorem dX4_exchange_54 : decode cX4_exchange 54 = .ok (.aload 7, 2) := by decide +kernel
theorem dX4_exchange_56 : decode cX4_exchange 56 = .ok (.aload 6, 2) := by decide +kernel
theorem dX4_exchange_58 : decode cX4_exchange 58 = .ok (.iload_n 3, 1) := by decide +kernel
theorem dX4_exchange_59 : decode cX4_exchange 59 = .ok (.invokevirtual 155, 3) := by decide +kernel
theorem dX4_exchange_62 : decode cX4_exchange 62 = .ok (.ifCond .eq 22, 3) := by decide +kernel
theorem dX4_exchange_65 : decode cX4_exchange 65 = .ok (.aload_n 0, 1) := by decide +kernel
theorem dX4_exchange_66 : decode cX4_exchange 66 = .ok (.aload 7, 2) := by decide +kernel
theorem dX4_exchange_68 : decode cX4_exchange 68 = .ok (.getfield 159, 3) := by decide +kernel
theorem dX4_exchange_71 : decode cX4_exchange 71 = .ok (.invokevirtual 163, 3) := by decide +kernel
theorem dX4_exchange_74 : decode cX4_exchange 74 = .ok (.ifCond .ne 10, 3) := by decide +kernel
theorem dX4_exchange_77 : decode cX4_exchange 77 = .ok (.aload_n 0, 1) := by decide +kernel
theorem dX4_exchange_78 : decode cX4_exchange 78 = .ok (.invokevirtual 71, 3) := by decide +kernel
theorem dX4_exchange_81 : decode cX4_exchange 81 = .ok (.ifCond .eq 13, 3) := by decide +kernel
theorem dX4_exchange_84 : decode cX4_exchange 84 = .ok (.new 60, 3) := by decide +kernel
theorem dX4_exchange_87 : decode cX4_exchange 87 = .ok (.dup, 1) := by decide +kernel
theorem dX4_exchange_88 : decode cX4_exchange 88 = .ok (.ldc 185, 2) := by decide +kernel
theorem dX4_exchange_90 : decode cX4_exchange 90 = .ok (.invokespecial 64, 3) := by decide +kernel
theorem dX4_exchange_93 : decode cX4_exchange 93 = .ok (.athrow, 1) := by decide +kernel
theorem dX4_exchange_94 : decode cX4_exchange 94 = .ok (.aload_n 0, 1) := by decide +kernel
theorem dX4_exchange_95 : decode cX4_exchange 95 = .ok (.aload 7, 2) := by decide +kernel
theorem dX4_exchange_97 : decode cX4_exchange 97 = .ok (.aload 6, 2) := by decide +kernel
theorem dX4_exchange_99 : decode cX4_exchange 99 = .ok (.iload_n 3, 1) := by decide +kernel
theorem dX4_exchange_100 : decode cX4_exchange 100 = .ok (.iload 4, 2) := by decide +kernel
theorem dX4_exchange_102 : decode cX4_exchange 102 = .ok (.aload 7, 2) := by decide +kernel
theorem dX4_exchange_104 : decode cX4_exchange 104 = .ok (.getfield 187, 3) := by decide +kernel
theorem dX4_exchange_107 : decode cX4_exchange 107 = .ok (.ifCond .le 7, 3) := by decide +kernel
theorem dX4_exchange_110 : decode cX4_exchange 110 = .ok (.iconst 1, 1) := by decide +kernel
theorem dX4_exchange_111 : decode cX4_exchange 111 = .ok (.goto 4, 3) := by decide +kernel
theorem dX4_exchange_114 : decode cX4_exchange 114 = .ok (.iconst 0, 1) := by decide +kernel
theorem dX4_exchange_115 : decode cX4_exchange 115 = .ok (.invokevirtual 169, 3) := by decide +kernel
theorem dX4_exchange_118 : decode cX4_exchange 118 = .ok (.istore 9, 2) := by decide +kernel
theorem dX4_exchange_120 : decode cX4_exchange 120 = .ok (.new 23, 3) := by decide +kernel
theorem dX4_exchange_123 : decode cX4_exchange 123 = .ok (.dup, 1) := by decide +kernel
theorem dX4_exchange_124 : decode cX4_exchange 124 = .ok (.aload 7, 2) := by decide +kernel
theorem dX4_exchange_126 : decode cX4_exchange 126 = .ok (.getfield 159, 3) := by decide +kernel
