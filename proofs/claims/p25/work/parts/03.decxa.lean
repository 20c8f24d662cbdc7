theorem dX0_init_0 : decode cX0_init 0 = .ok (.aload_n 0, 1) := by decide +kernel
theorem dX0_init_1 : decode cX0_init 1 = .ok (.invokespecial 3, 3) := by decide +kernel
theorem dX0_init_4 : decode cX0_init 4 = .ok (.aload_n 0, 1) := by decide +kernel
theorem dX0_init_5 : decode cX0_init 5 = .ok (.bipush 20, 2) := by decide +kernel
theorem dX0_init_7 : decode cX0_init 7 = .ok (.newarray .int, 2) := by decide +kernel
theorem dX0_init_9 : decode cX0_init 9 = .ok (.putfield 9, 3) := by decide +kernel
theorem dX0_init_12 : decode cX0_init 12 = .ok (.aload_n 0, 1) := by decide +kernel
theorem dX0_init_13 : decode cX0_init 13 = .ok (.bipush 20, 2) := by decide +kernel
theorem dX0_init_15 : decode cX0_init 15 = .ok (.newarray .int, 2) := by decide +kernel
theorem dX0_init_17 : decode cX0_init 17 = .ok (.putfield 15, 3) := by decide +kernel
theorem dX0_init_20 : decode cX0_init 20 = .ok (.aload_n 0, 1) := by decide +kernel
theorem dX0_init_21 : decode cX0_init 21 = .ok (.bipush 20, 2) := by decide +kernel
theorem dX0_init_23 : decode cX0_init 23 = .ok (.newarray .boolean, 2) := by decide +kernel
theorem dX0_init_25 : decode cX0_init 25 = .ok (.putfield 18, 3) := by decide +kernel
theorem dX0_init_28 : decode cX0_init 28 = .ok (.return_, 1) := by decide +kernel
theorem dX0_scoreOn_0 : decode cX0_scoreOn 0 = .ok (.iconst 0, 1) := by decide +kernel
theorem dX0_scoreOn_1 : decode cX0_scoreOn 1 = .ok (.istore_n 2, 1) := by decide +kernel
theorem dX0_scoreOn_2 : decode cX0_scoreOn 2 = .ok (.iconst 0, 1) := by decide +kernel
theorem dX0_scoreOn_3 : decode cX0_scoreOn 3 = .ok (.istore_n 3, 1) := by decide +kernel
theorem dX0_scoreOn_4 : decode cX0_scoreOn 4 = .ok (.iload_n 3, 1) := by decide +kernel
theorem dX0_scoreOn_5 : decode cX0_scoreOn 5 = .ok (.aload_n 0, 1) := by decide +kernel
theorem dX0_scoreOn_6 : decode cX0_scoreOn 6 = .ok (.getfield 22, 3) := by decide +kernel
theorem dX0_scoreOn_9 : decode cX0_scoreOn 9 = .ok (.if_icmp .ge 69, 3) := by decide +kernel
theorem dX0_scoreOn_12 : decode cX0_scoreOn 12 = .ok (.iload_n 3, 1) := by decide +kernel
theorem dX0_scoreOn_13 : decode cX0_scoreOn 13 = .ok (.bipush 20, 2) := by decide +kernel
theorem dX0_scoreOn_15 : decode cX0_scoreOn 15 = .ok (.if_icmp .ge 63, 3) := by decide +kernel
theorem dX0_scoreOn_18 : decode cX0_scoreOn 18 = .ok (.iload_n 1, 1) := by decide +kernel
theorem dX0_scoreOn_19 : decode cX0_scoreOn 19 = .ok (.aload_n 0, 1) := by decide +kernel
theorem dX0_scoreOn_20 : decode cX0_scoreOn 20 = .ok (.getfield 9, 3) := by decide +kernel
theorem dX0_scoreOn_23 : decode cX0_scoreOn 23 = .ok (.iload_n 3, 1) := by decide +kernel
theorem dX0_scoreOn_24 : decode cX0_scoreOn 24 = .ok (.iaload, 1) := by decide +kernel
theorem dX0_scoreOn_25 : decode cX0_scoreOn 25 = .ok (.isub, 1) := by decide +kernel
theorem dX0_scoreOn_26 : decode cX0_scoreOn 26 = .ok (.istore 4, 2) := by decide +kernel
theorem dX0_scoreOn_28 : decode cX0_scoreOn 28 = .ok (.iload 4, 2) := by decide +kernel
theorem dX0_scoreOn_30 : decode cX0_scoreOn 30 = .ok (.bipush 30, 2) := by decide +kernel
theorem dX0_scoreOn_32 : decode cX0_scoreOn 32 = .ok (.if_icmp .ge 15, 3) := by decide +kernel
theorem dX0_scoreOn_35 : decode cX0_scoreOn 35 = .ok (.iload_n 2, 1) := by decide +kernel
theorem dX0_scoreOn_36 : decode cX0_scoreOn 36 = .ok (.bipush 10, 2) := by decide +kernel
theorem dX0_scoreOn_38 : decode cX0_scoreOn 38 = .ok (.aload_n 0, 1) := by decide +kernel
theorem dX0_scoreOn_39 : decode cX0_scoreOn 39 = .ok (.getfield 15, 3) := by decide +kernel
theorem dX0_scoreOn_42 : decode cX0_scoreOn 42 = .ok (.iload_n 3, 1) := by decide +kernel
theorem dX0_scoreOn_43 : decode cX0_scoreOn 43 = .ok (.iaload, 1) := by decide +kernel
theorem dX0_scoreOn_44 : decode cX0_scoreOn 44 = .ok (.imul, 1) := by decide +kernel
theorem dX0_scoreOn_45 : decode cX0_scoreOn 45 = .ok (.iadd, 1) := by decide +kernel
theorem dX0_scoreOn_46 : decode cX0_scoreOn 46 = .ok (.istore_n 2, 1) := by decide +kernel
theorem dX0_scoreOn_47 : decode cX0_scoreOn 47 = .ok (.iload 4, 2) := by decide +kernel
theorem dX0_scoreOn_49 : decode cX0_scoreOn 49 = .ok (.bipush 90, 2) := by decide +kernel
theorem dX0_scoreOn_51 : decode cX0_scoreOn 51 = .ok (.if_icmp .ge 21, 3) := by decide +kernel
theorem dX0_scoreOn_54 : decode cX0_scoreOn 54 = .ok (.iload_n 2, 1) := by decide +kernel
theorem dX0_scoreOn_55 : decode cX0_scoreOn 55 = .ok (.aload_n 0, 1) := by decide +kernel
theorem dX0_scoreOn_56 : decode cX0_scoreOn 56 = .ok (.getfield 18, 3) := by decide +kernel
theorem dX0_scoreOn_59 : decode cX0_scoreOn 59 = .ok (.iload_n 3, 1) := by decide +kernel
theorem dX0_scoreOn_60 : decode cX0_scoreOn 60 = .ok (.baload, 1) := by decide +kernel
theorem dX0_scoreOn_61 : decode cX0_scoreOn 61 = .ok (.ifCond .eq 8, 3) := by decide +kernel
theorem dX0_scoreOn_64 : decode cX0_scoreOn 64 = .ok (.bipush 25, 2) := by decide +kernel
theorem dX0_scoreOn_66 : decode cX0_scoreOn 66 = .ok (.goto 4, 3) := by decide +kernel
theorem dX0_scoreOn_69 : decode cX0_scoreOn 69 = .ok (.iconst 5, 1) := by decide +kernel
theorem dX0_scoreOn_70 : decode cX0_scoreOn 70 = .ok (.iadd, 1) := by decide +kernel
theorem dX0_scoreOn_71 : decode cX0_scoreOn 71 = .ok (.istore_n 2, 1) := by decide +kernel
theorem dX0_scoreOn_72 : decode cX0_scoreOn 72 = .ok (.iinc 3 1, 3) := by decide +kernel
theorem dX0_scoreOn_75 : decode cX0_scoreOn 75 = .ok (.goto (-71), 3) := by decide +kernel
theorem dX0_scoreOn_78 : decode cX0_scoreOn 78 = .ok (.iload_n 2, 1) := by decide +kernel
theorem dX0_scoreOn_79 : decode cX0_scoreOn 79 = .ok (.ireturn, 1) := by decide +kernel
set_option maxRecDepth 20000 in
theorem ggX0_remember_X0_forgetBefore : GoodIn wsX0_remember wsX0_forgetBefore := goodIn_r _ [9, 1, 2, 3, 4, 10, 11, 12, 13] (by decide +kernel) (by decide +kernel)
set_option maxRecDepth 20000 in
theorem gX0_remember_X0_forgetBefore : GoodIn wsX0_remember (wsV RX0 26 RX0 yX0_forgetBefore wsX0_forgetBefore) := goodIn_app (goodIn_of _ (by decide +kernel)) ggX0_remember_X0_forgetBefore
theorem dX0_remember_0 : decode cX0_remember 0 = .ok (.aload_n 0, 1) := by decide +kernel
theorem dX0_remember_1 : decode cX0_remember 1 = .ok (.iload_n 1, 1) := by decide +kernel
theorem dX0_remember_2 : decode cX0_remember 2 = .ok (.bipush 90, 2) := by decide +kernel
theorem dX0_remember_4 : decode cX0_remember 4 = .ok (.isub, 1) := by decide +kernel
theorem dX0_remember_5 : decode cX0_remember 5 = .ok (.iconst 1, 1) := by decide +kernel
theorem dX0_remember_6 : decode cX0_remember 6 = .ok (.iadd, 1) := by decide +kernel
theorem dX0_remember_7 : decode cX0_remember 7 = .ok (.invokevirtual 26, 3) := by decide +kernel
theorem dX0_remember_10 : decode cX0_remember 10 = .ok (.aload_n 0, 1) := by decide +kernel
theorem dX0_remember_11 : decode cX0_remember 11 = .ok (.getfield 22, 3) := by decide +kernel
theorem dX0_remember_14 : decode cX0_remember 14 = .ok (.ifCond .lt 52, 3) := by decide +kernel
theorem dX0_remember_17 : decode cX0_remember 17 = .ok (.aload_n 0, 1) := by decide +kernel
theorem dX0_remember_18 : decode cX0_remember 18 = .ok (.getfield 22, 3) := by decide +kernel
theorem dX0_remember_21 : decode cX0_remember 21 = .ok (.bipush 20, 2) := by decide +kernel
theorem dX0_remember_23 : decode cX0_remember 23 = .ok (.if_icmp .ge 43, 3) := by decide +kernel
theorem dX0_remember_26 : decode cX0_remember 26 = .ok (.aload_n 0, 1) := by decide +kernel
theorem dX0_remember_27 : decode cX0_remember 27 = .ok (.getfield 9, 3) := by decide +kernel
theorem dX0_remember_30 : decode cX0_remember 30 = .ok (.aload_n 0, 1) := by decide +kernel
theorem dX0_remember_31 : decode cX0_remember 31 = .ok (.getfield 22, 3) := by decide +kernel
theorem dX0_remember_34 : decode cX0_remember 34 = .ok (.iload_n 1, 1) := by decide +kernel
theorem dX0_remember_35 : decode cX0_remember 35 = .ok (.iastore, 1) := by decide +kernel
theorem dX0_remember_36 : decode cX0_remember 36 = .ok (.aload_n 0, 1) := by decide +kernel
theorem dX0_remember_37 : decode cX0_remember 37 = .ok (.getfield 15, 3) := by decide +kernel
theorem dX0_remember_40 : decode cX0_remember 40 = .ok (.aload_n 0, 1) := by decide +kernel
theorem dX0_remember_41 : decode cX0_remember 41 = .ok (.getfield 22, 3) := by decide +kernel
theorem dX0_remember_44 : decode cX0_remember 44 = .ok (.iload_n 2, 1) := by decide +kernel
theorem dX0_remember_45 : decode cX0_remember 45 = .ok (.iastore, 1) := by decide +kernel
theorem dX0_remember_46 : decode cX0_remember 46 = .ok (.aload_n 0, 1) := by decide +kernel
theorem dX0_remember_47 : decode cX0_remember 47 = .ok (.getfield 18, 3) := by decide +kernel
theorem dX0_remember_50 : decode cX0_remember 50 = .ok (.aload_n 0, 1) := by decide +kernel
theorem dX0_remember_51 : decode cX0_remember 51 = .ok (.getfield 22, 3) := by decide +kernel
theorem dX0_remember_54 : decode cX0_remember 54 = .ok (.iload_n 3, 1) := by decide +kernel
theorem dX0_remember_55 : decode cX0_remember 55 = .ok (.bastore, 1) := by decide +kernel
theorem dX0_remember_56 : decode cX0_remember 56 = .ok (.aload_n 0, 1) := by decide +kernel
theorem dX0_remember_57 : decode cX0_remember 57 = .ok (.dup, 1) := by decide +kernel
theorem dX0_remember_58 : decode cX0_remember 58 = .ok (.getfield 22, 3) := by decide +kernel
theorem dX0_remember_61 : decode cX0_remember 61 = .ok (.iconst 1, 1) := by decide +kernel
theorem dX0_remember_62 : decode cX0_remember 62 = .ok (.iadd, 1) := by decide +kernel
theorem dX0_remember_63 : decode cX0_remember 63 = .ok (.putfield 22, 3) := by decide +kernel
theorem dX0_remember_66 : decode cX0_remember 66 = .ok (.return_, 1) := by decide +kernel
theorem dX0_forgetBefore_0 : decode cX0_forgetBefore 0 = .ok (.iconst 0, 1) := by decide +kernel
theorem dX0_forgetBefore_1 : decode cX0_forgetBefore 1 = .ok (.istore_n 2, 1) := by decide +kernel
theorem dX0_forgetBefore_2 : decode cX0_forgetBefore 2 = .ok (.iconst 0, 1) := by decide +kernel
theorem dX0_forgetBefore_3 : decode cX0_forgetBefore 3 = .ok (.istore_n 3, 1) := by decide +kernel
theorem dX0_forgetBefore_4 : decode cX0_forgetBefore 4 = .ok (.iload_n 3, 1) := by decide +kernel
theorem dX0_forgetBefore_5 : decode cX0_forgetBefore 5 = .ok (.aload_n 0, 1) := by decide +kernel
theorem dX0_forgetBefore_6 : decode cX0_forgetBefore 6 = .ok (.getfield 22, 3) := by decide +kernel
theorem dX0_forgetBefore_9 : decode cX0_forgetBefore 9 = .ok (.if_icmp .ge 70, 3) := by decide +kernel
theorem dX0_forgetBefore_12 : decode cX0_forgetBefore 12 = .ok (.iload_n 3, 1) := by decide +kernel
theorem dX0_forgetBefore_13 : decode cX0_forgetBefore 13 = .ok (.bipush 20, 2) := by decide +kernel
theorem dX0_forgetBefore_15 : decode cX0_forgetBefore 15 = .ok (.if_icmp .ge 64, 3) := by decide +kernel
theorem dX0_forgetBefore_18 : decode cX0_forgetBefore 18 = .ok (.aload_n 0, 1) := by decide +kernel
theorem dX0_forgetBefore_19 : decode cX0_forgetBefore 19 = .ok (.getfield 9, 3) := by decide +kernel
theorem dX0_forgetBefore_22 : decode cX0_forgetBefore 22 = .ok (.iload_n 3, 1) := by decide +kernel
theorem dX0_forgetBefore_23 : decode cX0_forgetBefore 23 = .ok (.iaload, 1) := by decide +kernel
theorem dX0_forgetBefore_24 : decode cX0_forgetBefore 24 = .ok (.iload_n 1, 1) := by decide +kernel
theorem dX0_forgetBefore_25 : decode cX0_forgetBefore 25 = .ok (.if_icmp .lt 48, 3) := by decide +kernel
theorem dX0_forgetBefore_28 : decode cX0_forgetBefore 28 = .ok (.iload_n 2, 1) := by decide +kernel
theorem dX0_forgetBefore_29 : decode cX0_forgetBefore 29 = .ok (.bipush 20, 2) := by decide +kernel
theorem dX0_forgetBefore_31 : decode cX0_forgetBefore 31 = .ok (.if_icmp .ge 42, 3) := by decide +kernel
theorem dX0_forgetBefore_34 : decode cX0_forgetBefore 34 = .ok (.aload_n 0, 1) := by decide +kernel
theorem dX0_forgetBefore_35 : decode cX0_forgetBefore 35 = .ok (.getfield 9, 3) := by decide +kernel
theorem dX0_forgetBefore_38 : decode cX0_forgetBefore 38 = .ok (.iload_n 2, 1) := by decide +kernel
theorem dX0_forgetBefore_39 : decode cX0_forgetBefore 39 = .ok (.aload_n 0, 1) := by decide +kernel
theorem dX0_forgetBefore_40 : decode cX0_forgetBefore 40 = .ok (.getfield 9, 3) := by decide +kernel
theorem dX0_forgetBefore_43 : decode cX0_forgetBefore 43 = .ok (.iload_n 3, 1) := by decide +kernel
theorem dX0_forgetBefore_44 : decode cX0_forgetBefore 44 = .ok (.iaload, 1) := by decide +kernel
theorem dX0_forgetBefore_45 : decode cX0_forgetBefore 45 = .ok (.iastore, 1) := by decide +kernel
theorem dX0_forgetBefore_46 : decode cX0_forgetBefore 46 = .ok (.aload_n 0, 1) := by decide +kernel
theorem dX0_forgetBefore_47 : decode cX0_forgetBefore 47 = .ok (.getfield 15, 3) := by decide +kernel
theorem dX0_forgetBefore_50 : decode cX0_forgetBefore 50 = .ok (.iload_n 2, 1) := by decide +kernel
theorem dX0_forgetBefore_51 : decode cX0_forgetBefore 51 = .ok (.aload_n 0, 1) := by decide +kernel
theorem dX0_forgetBefore_52 : decode cX0_forgetBefore 52 = .ok (.getfield 15, 3) := by decide +kernel
theorem dX0_forgetBefore_55 : decode cX0_forgetBefore 55 = .ok (.iload_n 3, 1) := by decide +kernel
theorem dX0_forgetBefore_56 : decode cX0_forgetBefore 56 = .ok (.iaload, 1) := by decide +kernel
theorem dX0_forgetBefore_57 : decode cX0_forgetBefore 57 = .ok (.iastore, 1) := by decide +kernel
theorem dX0_forgetBefore_58 : decode cX0_forgetBefore 58 = .ok (.aload_n 0, 1) := by decide +kernel
theorem dX0_forgetBefore_59 : decode cX0_forgetBefore 59 = .ok (.getfield 18, 3) := by decide +kernel
theorem dX0_forgetBefore_62 : decode cX0_forgetBefore 62 = .ok (.iload_n 2, 1) := by decide +kernel
theorem dX0_forgetBefore_63 : decode cX0_forgetBefore 63 = .ok (.aload_n 0, 1) := by decide +kernel
theorem dX0_forgetBefore_64 : decode cX0_forgetBefore 64 = .ok (.getfield 18, 3) := by decide +kernel
theorem dX0_forgetBefore_67 : decode cX0_forgetBefore 67 = .ok (.iload_n 3, 1) := by decide +kernel
theorem dX0_forgetBefore_68 : decode cX0_forgetBefore 68 = .ok (.baload, 1) := by decide +kernel
theorem dX0_forgetBefore_69 : decode cX0_forgetBefore 69 = .ok (.bastore, 1) := by decide +kernel
theorem dX0_forgetBefore_70 : decode cX0_forgetBefore 70 = .ok (.iinc 2 1, 3) := by decide +kernel
theorem dX0_forgetBefore_73 : decode cX0_forgetBefore 73 = .ok (.iinc 3 1, 3) := by decide +kernel
theorem dX0_forgetBefore_76 : decode cX0_forgetBefore 76 = .ok (.goto (-72), 3) := by decide +kernel
theorem dX0_forgetBefore_79 : decode cX0_forgetBefore 79 = .ok (.aload_n 0, 1) := by decide +kernel
theorem dX0_forgetBefore_80 : decode cX0_forgetBefore 80 = .ok (.iload_n 2, 1) := by decide +kernel
theorem dX0_forgetBefore_81 : decode cX0_forgetBefore 81 = .ok (.putfield 22, 3) := by decide +kernel
theorem dX0_forgetBefore_84 : decode cX0_forgetBefore 84 = .ok (.return_, 1) := by decide +kernel
theorem dX1_init_0 : decode cX1_init 0 = .ok (.aload_n 0, 1) := by decide +kernel
theorem dX1_init_1 : decode cX1_init 1 = .ok (.invokespecial 1, 3) := by decide +kernel
theorem dX1_init_4 : decode cX1_init 4 = .ok (.aload_n 0, 1) := by decide +kernel
theorem dX1_init_5 : decode cX1_init 5 = .ok (.aload_n 1, 1) := by decide +kernel
theorem dX1_init_6 : decode cX1_init 6 = .ok (.putfield 7, 3) := by decide +kernel
theorem dX1_init_9 : decode cX1_init 9 = .ok (.aload_n 0, 1) := by decide +kernel
theorem dX1_init_10 : decode cX1_init 10 = .ok (.iload_n 2, 1) := by decide +kernel
theorem dX1_init_11 : decode cX1_init 11 = .ok (.putfield 13, 3) := by decide +kernel
theorem dX1_init_14 : decode cX1_init 14 = .ok (.aload_n 0, 1) := by decide +kernel
theorem dX1_init_15 : decode cX1_init 15 = .ok (.aload_n 1, 1) := by decide +kernel
theorem dX1_init_16 : decode cX1_init 16 = .ok (.getfield 17, 3) := by decide +kernel
theorem dX1_init_19 : decode cX1_init 19 = .ok (.putfield 22, 3) := by decide +kernel
theorem dX1_init_22 : decode cX1_init 22 = .ok (.return_, 1) := by decide +kernel
theorem dX1_goodsOf_0 : decode cX1_goodsOf 0 = .ok (.iload_n 1, 1) := by decide +kernel
theorem dX1_goodsOf_1 : decode cX1_goodsOf 1 = .ok (.aload_n 0, 1) := by decide +kernel
theorem dX1_goodsOf_2 : decode cX1_goodsOf 2 = .ok (.getfield 22, 3) := by decide +kernel
theorem dX1_goodsOf_5 : decode cX1_goodsOf 5 = .ok (.imul, 1) := by decide +kernel
theorem dX1_goodsOf_6 : decode cX1_goodsOf 6 = .ok (.ireturn, 1) := by decide +kernel
theorem dX2_init_0 : decode cX2_init 0 = .ok (.aload_n 0, 1) := by decide +kernel
theorem dX2_init_1 : decode cX2_init 1 = .ok (.invokespecial 3, 3) := by decide +kernel
theorem dX2_init_4 : decode cX2_init 4 = .ok (.aload_n 0, 1) := by decide +kernel
theorem dX2_init_5 : decode cX2_init 5 = .ok (.sipush 1000, 3) := by decide +kernel
theorem dX2_init_8 : decode cX2_init 8 = .ok (.putfield 9, 3) := by decide +kernel
theorem dX2_init_11 : decode cX2_init 11 = .ok (.aload_n 0, 1) := by decide +kernel
theorem dX2_init_12 : decode cX2_init 12 = .ok (.sipush 200, 3) := by decide +kernel
theorem dX2_init_15 : decode cX2_init 15 = .ok (.putfield 15, 3) := by decide +kernel
theorem dX2_init_18 : decode cX2_init 18 = .ok (.aload_n 0, 1) := by decide +kernel
theorem dX2_init_19 : decode cX2_init 19 = .ok (.sipush 300, 3) := by decide +kernel
theorem dX2_init_22 : decode cX2_init 22 = .ok (.putfield 18, 3) := by decide +kernel
theorem dX2_init_25 : decode cX2_init 25 = .ok (.aload_n 0, 1) := by decide +kernel
theorem dX2_init_26 : decode cX2_init 26 = .ok (.iconst 5, 1) := by decide +kernel
theorem dX2_init_27 : decode cX2_init 27 = .ok (.newarray .int, 2) := by decide +kernel
theorem dX2_init_29 : decode cX2_init 29 = .ok (.putfield 21, 3) := by decide +kernel
theorem dX2_init_32 : decode cX2_init 32 = .ok (.return_, 1) := by decide +kernel
theorem dX2_unitsAt_0 : decode cX2_unitsAt 0 = .ok (.iload_n 1, 1) := by decide +kernel
theorem dX2_unitsAt_1 : decode cX2_unitsAt 1 = .ok (.ifCond .lt 21, 3) := by decide +kernel
theorem dX2_unitsAt_4 : decode cX2_unitsAt 4 = .ok (.iload_n 1, 1) := by decide +kernel
theorem dX2_unitsAt_5 : decode cX2_unitsAt 5 = .ok (.aload_n 0, 1) := by decide +kernel
theorem dX2_unitsAt_6 : decode cX2_unitsAt 6 = .ok (.getfield 21, 3) := by decide +kernel
theorem dX2_unitsAt_9 : decode cX2_unitsAt 9 = .ok (.arraylength, 1) := by decide +kernel
theorem dX2_unitsAt_10 : decode cX2_unitsAt 10 = .ok (.if_icmp .ge 12, 3) := by decide +kernel
theorem dX2_unitsAt_13 : decode cX2_unitsAt 13 = .ok (.aload_n 0, 1) := by decide +kernel
theorem dX2_unitsAt_14 : decode cX2_unitsAt 14 = .ok (.getfield 21, 3) := by decide +kernel
theorem dX2_unitsAt_17 : decode cX2_unitsAt 17 = .ok (.iload_n 1, 1) := by decide +kernel
theorem dX2_unitsAt_18 : decode cX2_unitsAt 18 = .ok (.iaload, 1) := by decide +kernel
theorem dX2_unitsAt_19 : decode cX2_unitsAt 19 = .ok (.goto 4, 3) := by decide +kernel
theorem dX2_unitsAt_22 : decode cX2_unitsAt 22 = .ok (.iconst 0, 1) := by decide +kernel
theorem dX2_unitsAt_23 : decode cX2_unitsAt 23 = .ok (.ireturn, 1) := by decide +kernel
theorem dX2_move_0 : decode cX2_move 0 = .ok (.iload_n 1, 1) := by decide +kernel
theorem dX2_move_1 : decode cX2_move 1 = .ok (.ifCond .lt 22, 3) := by decide +kernel
theorem dX2_move_4 : decode cX2_move 4 = .ok (.iload_n 1, 1) := by decide +kernel
theorem dX2_move_5 : decode cX2_move 5 = .ok (.aload_n 0, 1) := by decide +kernel
theorem dX2_move_6 : decode cX2_move 6 = .ok (.getfield 21, 3) := by decide +kernel
theorem dX2_move_9 : decode cX2_move 9 = .ok (.arraylength, 1) := by decide +kernel
theorem dX2_move_10 : decode cX2_move 10 = .ok (.if_icmp .ge 13, 3) := by decide +kernel
theorem dX2_move_13 : decode cX2_move 13 = .ok (.aload_n 0, 1) := by decide +kernel
theorem dX2_move_14 : decode cX2_move 14 = .ok (.getfield 21, 3) := by decide +kernel
theorem dX2_move_17 : decode cX2_move 17 = .ok (.iload_n 1, 1) := by decide +kernel
theorem dX2_move_18 : decode cX2_move 18 = .ok (.dup2, 1) := by decide +kernel
theorem dX2_move_19 : decode cX2_move 19 = .ok (.iaload, 1) := by decide +kernel
theorem dX2_move_20 : decode cX2_move 20 = .ok (.iload_n 2, 1) := by decide +kernel
theorem dX2_move_21 : decode cX2_move 21 = .ok (.iadd, 1) := by decide +kernel
theorem dX2_move_22 : decode cX2_move 22 = .ok (.iastore, 1) := by decide +kernel
theorem dX2_move_23 : decode cX2_move 23 = .ok (.return_, 1) := by decide +kernel
set_option maxRecDepth 20000 in
theorem ggX2_optionFor_X2_isOffered : GoodIn wsX2_optionFor wsX2_isOffered := goodIn_r _ [4] (by decide +kernel) (by decide +kernel)
set_option maxRecDepth 20000 in
theorem gX2_optionFor_X2_isOffered : GoodIn wsX2_optionFor (va_wsS RX2 25 yX2_isOffered wsX2_isOffered) := goodIn_app (goodIn_of _ (by decide +kernel)) ggX2_optionFor_X2_isOffered
set_option maxRecDepth 20000 in
theorem ggX2_optionFor_X2_worthOf : GoodIn wsX2_optionFor wsX2_worthOf := goodIn_r _ [8, 9, 10, 11, 12, 13, 14, 15, 16, 3, 17, 18, 19, 20, 21, 22, 23, 24, 25, 26, 27, 28, 29, 30, 31] (by decide +kernel) (by decide +kernel)
set_option maxRecDepth 20000 in
theorem gX2_optionFor_X2_worthOf : GoodIn wsX2_optionFor (wsV RX2 29 RX2 yX2_worthOf wsX2_worthOf) := goodIn_app (goodIn_of _ (by decide +kernel)) ggX2_optionFor_X2_worthOf
theorem dX2_optionFor_0 : decode cX2_optionFor 0 = .ok (.iconst (-1), 1) := by decide +kernel
theorem dX2_optionFor_1 : decode cX2_optionFor 1 = .ok (.istore_n 2, 1) := by decide +kernel
theorem dX2_optionFor_2 : decode cX2_optionFor 2 = .ok (.iconst 0, 1) := by decide +kernel
theorem dX2_optionFor_3 : decode cX2_optionFor 3 = .ok (.istore_n 3, 1) := by decide +kernel
theorem dX2_optionFor_4 : decode cX2_optionFor 4 = .ok (.iload_n 3, 1) := by decide +kernel
theorem dX2_optionFor_5 : decode cX2_optionFor 5 = .ok (.iconst 5, 1) := by decide +kernel
theorem dX2_optionFor_6 : decode cX2_optionFor 6 = .ok (.if_icmp .ge 38, 3) := by decide +kernel
theorem dX2_optionFor_9 : decode cX2_optionFor 9 = .ok (.iload_n 3, 1) := by decide +kernel
theorem dX2_optionFor_10 : decode cX2_optionFor 10 = .ok (.iload_n 1, 1) := by decide +kernel
theorem dX2_optionFor_11 : decode cX2_optionFor 11 = .ok (.invokestatic 25, 3) := by decide +kernel
theorem dX2_optionFor_14 : decode cX2_optionFor 14 = .ok (.ifCond .eq 24, 3) := by decide +kernel
theorem dX2_optionFor_17 : decode cX2_optionFor 17 = .ok (.iload_n 2, 1) := by decide +kernel
theorem dX2_optionFor_18 : decode cX2_optionFor 18 = .ok (.ifCond .lt 18, 3) := by decide +kernel
theorem dX2_optionFor_21 : decode cX2_optionFor 21 = .ok (.aload_n 0, 1) := by decide +kernel
theorem dX2_optionFor_22 : decode cX2_optionFor 22 = .ok (.iload_n 3, 1) := by decide +kernel
theorem dX2_optionFor_23 : decode cX2_optionFor 23 = .ok (.iload_n 1, 1) := by decide +kernel
theorem dX2_optionFor_24 : decode cX2_optionFor 24 = .ok (.invokevirtual 29, 3) := by decide +kernel
theorem dX2_optionFor_27 : decode cX2_optionFor 27 = .ok (.aload_n 0, 1) := by decide +kernel
theorem dX2_optionFor_28 : decode cX2_optionFor 28 = .ok (.iload_n 2, 1) := by decide +kernel
theorem dX2_optionFor_29 : decode cX2_optionFor 29 = .ok (.iload_n 1, 1) := by decide +kernel
theorem dX2_optionFor_30 : decode cX2_optionFor 30 = .ok (.invokevirtual 29, 3) := by decide +kernel
theorem dX2_optionFor_33 : decode cX2_optionFor 33 = .ok (.if_icmp .le 5, 3) := by decide +kernel
theorem dX2_optionFor_36 : decode cX2_optionFor 36 = .ok (.iload_n 3, 1) := by decide +kernel
theorem dX2_optionFor_37 : decode cX2_optionFor 37 = .ok (.istore_n 2, 1) := by decide +kernel
theorem dX2_optionFor_38 : decode cX2_optionFor 38 = .ok (.iinc 3 1, 3) := by decide +kernel
theorem dX2_optionFor_41 : decode cX2_optionFor 41 = .ok (.goto (-37), 3) := by decide +kernel
theorem dX2_optionFor_44 : decode cX2_optionFor 44 = .ok (.iload_n 2, 1) := by decide +kernel
theorem dX2_optionFor_45 : decode cX2_optionFor 45 = .ok (.ireturn, 1) := by decide +kernel
set_option maxRecDepth 20000 in
theorem ggX2_worthOf_X2_repairWorth : GoodIn wsX2_worthOf wsX2_repairWorth := goodIn_r _ [10, 1, 11, 21, 22, 23, 24] (by decide +kernel) (by decide +kernel)
set_option maxRecDepth 20000 in
theorem gX2_worthOf_X2_repairWorth : GoodIn wsX2_worthOf (wsV RX2 33 RX2 yX2_repairWorth wsX2_repairWorth) := goodIn_app (goodIn_of _ (by decide +kernel)) ggX2_worthOf_X2_repairWorth
set_option maxRecDepth 20000 in
theorem ggX2_worthOf_X2_salvageWorth : GoodIn wsX2_worthOf wsX2_salvageWorth := goodIn_r _ [15, 16, 21, 22, 23, 24] (by decide +kernel) (by decide +kernel)
set_option maxRecDepth 20000 in
theorem gX2_worthOf_X2_salvageWorth : GoodIn wsX2_worthOf (wsV RX2 37 RX2 yX2_salvageWorth wsX2_salvageWorth) := goodIn_app (goodIn_of _ (by decide +kernel)) ggX2_worthOf_X2_salvageWorth
set_option maxRecDepth 20000 in
theorem ggX2_worthOf_J9_floorDiv_7cf53 : GoodIn wsX2_worthOf wsJ9_floorDiv_7cf53 := goodIn_r _ [20] (by decide +kernel) (by decide +kernel)
set_option maxRecDepth 20000 in
theorem gX2_worthOf_J9_floorDiv_7cf53 : GoodIn wsX2_worthOf (va_wsS RX2 45 yJ9_floorDiv_7cf53 wsJ9_floorDiv_7cf53) := goodIn_app (goodIn_of _ (by decide +kernel)) ggX2_worthOf_J9_floorDiv_7cf53
theorem dX2_worthOf_0 : decode cX2_worthOf 0 = .ok (.iload_n 1, 1) := by decide +kernel
theorem dX2_worthOf_1 : decode cX2_worthOf 1 = .ok (.tableswitch 86 0 3 #[31, 48, 76, 81], 31) := by decide +kernel
theorem dX2_worthOf_32 : decode cX2_worthOf 32 = .ok (.iload_n 2, 1) := by decide +kernel
theorem dX2_worthOf_33 : decode cX2_worthOf 33 = .ok (.ifCond .ne 8, 3) := by decide +kernel
theorem dX2_worthOf_36 : decode cX2_worthOf 36 = .ok (.bipush 100, 2) := by decide +kernel
theorem dX2_worthOf_38 : decode cX2_worthOf 38 = .ok (.goto 5, 3) := by decide +kernel
theorem dX2_worthOf_41 : decode cX2_worthOf 41 = .ok (.bipush 46, 2) := by decide +kernel
theorem dX2_worthOf_43 : decode cX2_worthOf 43 = .ok (.aload_n 0, 1) := by decide +kernel
theorem dX2_worthOf_44 : decode cX2_worthOf 44 = .ok (.getfield 9, 3) := by decide +kernel
theorem dX2_worthOf_47 : decode cX2_worthOf 47 = .ok (.imul, 1) := by decide +kernel
theorem dX2_worthOf_48 : decode cX2_worthOf 48 = .ok (.ireturn, 1) := by decide +kernel
theorem dX2_worthOf_49 : decode cX2_worthOf 49 = .ok (.bipush 68, 2) := by decide +kernel
theorem dX2_worthOf_51 : decode cX2_worthOf 51 = .ok (.aload_n 0, 1) := by decide +kernel
theorem dX2_worthOf_52 : decode cX2_worthOf 52 = .ok (.getfield 9, 3) := by decide +kernel
theorem dX2_worthOf_55 : decode cX2_worthOf 55 = .ok (.imul, 1) := by decide +kernel
theorem dX2_worthOf_56 : decode cX2_worthOf 56 = .ok (.sipush 5000, 3) := by decide +kernel
theorem dX2_worthOf_59 : decode cX2_worthOf 59 = .ok (.isub, 1) := by decide +kernel
theorem dX2_worthOf_60 : decode cX2_worthOf 60 = .ok (.aload_n 0, 1) := by decide +kernel
theorem dX2_worthOf_61 : decode cX2_worthOf 61 = .ok (.invokevirtual 33, 3) := by decide +kernel
theorem dX2_worthOf_64 : decode cX2_worthOf 64 = .ok (.aload_n 0, 1) := by decide +kernel
theorem dX2_worthOf_65 : decode cX2_worthOf 65 = .ok (.invokevirtual 37, 3) := by decide +kernel
theorem dX2_worthOf_68 : decode cX2_worthOf 68 = .ok (.invokestatic 40, 3) := by decide +kernel
theorem dX2_worthOf_71 : decode cX2_worthOf 71 = .ok (.iconst 5, 1) := by decide +kernel
theorem dX2_worthOf_72 : decode cX2_worthOf 72 = .ok (.invokestatic 45, 3) := by decide +kernel
theorem dX2_worthOf_75 : decode cX2_worthOf 75 = .ok (.iadd, 1) := by decide +kernel
theorem dX2_worthOf_76 : decode cX2_worthOf 76 = .ok (.ireturn, 1) := by decide +kernel
theorem dX2_worthOf_77 : decode cX2_worthOf 77 = .ok (.aload_n 0, 1) := by decide +kernel
theorem dX2_worthOf_78 : decode cX2_worthOf 78 = .ok (.invokevirtual 33, 3) := by decide +kernel
theorem dX2_worthOf_81 : decode cX2_worthOf 81 = .ok (.ireturn, 1) := by decide +kernel
theorem dX2_worthOf_82 : decode cX2_worthOf 82 = .ok (.aload_n 0, 1) := by decide +kernel
theorem dX2_worthOf_83 : decode cX2_worthOf 83 = .ok (.invokevirtual 37, 3) := by decide +kernel
theorem dX2_worthOf_86 : decode cX2_worthOf 86 = .ok (.ireturn, 1) := by decide +kernel
theorem dX2_worthOf_87 : decode cX2_worthOf 87 = .ok (.bipush 60, 2) := by decide +kernel
theorem dX2_worthOf_89 : decode cX2_worthOf 89 = .ok (.aload_n 0, 1) := by decide +kernel
theorem dX2_worthOf_90 : decode cX2_worthOf 90 = .ok (.getfield 9, 3) := by decide +kernel
theorem dX2_worthOf_93 : decode cX2_worthOf 93 = .ok (.imul, 1) := by decide +kernel
theorem dX2_worthOf_94 : decode cX2_worthOf 94 = .ok (.ireturn, 1) := by decide +kernel
theorem dX2_repairWorth_0 : decode cX2_repairWorth 0 = .ok (.bipush 80, 2) := by decide +kernel
theorem dX2_repairWorth_2 : decode cX2_repairWorth 2 = .ok (.aload_n 0, 1) := by decide +kernel
theorem dX2_repairWorth_3 : decode cX2_repairWorth 3 = .ok (.getfield 9, 3) := by decide +kernel
theorem dX2_repairWorth_6 : decode cX2_repairWorth 6 = .ok (.imul, 1) := by decide +kernel
theorem dX2_repairWorth_7 : decode cX2_repairWorth 7 = .ok (.bipush 100, 2) := by decide +kernel
theorem dX2_repairWorth_9 : decode cX2_repairWorth 9 = .ok (.aload_n 0, 1) := by decide +kernel
theorem dX2_repairWorth_10 : decode cX2_repairWorth 10 = .ok (.getfield 18, 3) := by decide +kernel
theorem dX2_repairWorth_13 : decode cX2_repairWorth 13 = .ok (.imul, 1) := by decide +kernel
theorem dX2_repairWorth_14 : decode cX2_repairWorth 14 = .ok (.isub, 1) := by decide +kernel
theorem dX2_repairWorth_15 : decode cX2_repairWorth 15 = .ok (.ireturn, 1) := by decide +kernel
theorem dX2_salvageWorth_0 : decode cX2_salvageWorth 0 = .ok (.bipush 100, 2) := by decide +kernel
theorem dX2_salvageWorth_2 : decode cX2_salvageWorth 2 = .ok (.aload_n 0, 1) := by decide +kernel
theorem dX2_salvageWorth_3 : decode cX2_salvageWorth 3 = .ok (.getfield 15, 3) := by decide +kernel
theorem dX2_salvageWorth_6 : decode cX2_salvageWorth 6 = .ok (.imul, 1) := by decide +kernel
theorem dX2_salvageWorth_7 : decode cX2_salvageWorth 7 = .ok (.ireturn, 1) := by decide +kernel
theorem dX2_isOffered_0 : decode cX2_isOffered 0 = .ok (.iload_n 1, 1) := by decide +kernel
theorem dX2_isOffered_1 : decode cX2_isOffered 1 = .ok (.tableswitch 73 0 2 #[27, 37, 57], 27) := by decide +kernel
theorem dX2_isOffered_28 : decode cX2_isOffered 28 = .ok (.iload_n 0, 1) := by decide +kernel
theorem dX2_isOffered_29 : decode cX2_isOffered 29 = .ok (.ifCond .ne 7, 3) := by decide +kernel
theorem dX2_isOffered_32 : decode cX2_isOffered 32 = .ok (.iconst 1, 1) := by decide +kernel
theorem dX2_isOffered_33 : decode cX2_isOffered 33 = .ok (.goto 4, 3) := by decide +kernel
theorem dX2_isOffered_36 : decode cX2_isOffered 36 = .ok (.iconst 0, 1) := by decide +kernel
theorem dX2_isOffered_37 : decode cX2_isOffered 37 = .ok (.ireturn, 1) := by decide +kernel
theorem dX2_isOffered_38 : decode cX2_isOffered 38 = .ok (.iload_n 0, 1) := by decide +kernel
theorem dX2_isOffered_39 : decode cX2_isOffered 39 = .ok (.ifCond .eq 13, 3) := by decide +kernel
theorem dX2_isOffered_42 : decode cX2_isOffered 42 = .ok (.iload_n 0, 1) := by decide +kernel
theorem dX2_isOffered_43 : decode cX2_isOffered 43 = .ok (.iconst 1, 1) := by decide +kernel
theorem dX2_isOffered_44 : decode cX2_isOffered 44 = .ok (.if_icmp .eq 8, 3) := by decide +kernel
theorem dX2_isOffered_47 : decode cX2_isOffered 47 = .ok (.iload_n 0, 1) := by decide +kernel
theorem dX2_isOffered_48 : decode cX2_isOffered 48 = .ok (.iconst 3, 1) := by decide +kernel
theorem dX2_isOffered_49 : decode cX2_isOffered 49 = .ok (.if_icmp .ne 7, 3) := by decide +kernel
theorem dX2_isOffered_52 : decode cX2_isOffered 52 = .ok (.iconst 1, 1) := by decide +kernel
theorem dX2_isOffered_53 : decode cX2_isOffered 53 = .ok (.goto 4, 3) := by decide +kernel
theorem dX2_isOffered_56 : decode cX2_isOffered 56 = .ok (.iconst 0, 1) := by decide +kernel
theorem dX2_isOffered_57 : decode cX2_isOffered 57 = .ok (.ireturn, 1) := by decide +kernel
theorem dX2_isOffered_58 : decode cX2_isOffered 58 = .ok (.iload_n 0, 1) := by decide +kernel
theorem dX2_isOffered_59 : decode cX2_isOffered 59 = .ok (.iconst 2, 1) := by decide +kernel
theorem dX2_isOffered_60 : decode cX2_isOffered 60 = .ok (.if_icmp .eq 8, 3) := by decide +kernel
theorem dX2_isOffered_63 : decode cX2_isOffered 63 = .ok (.iload_n 0, 1) := by decide +kernel
theorem dX2_isOffered_64 : decode cX2_isOffered 64 = .ok (.iconst 3, 1) := by decide +kernel
theorem dX2_isOffered_65 : decode cX2_isOffered 65 = .ok (.if_icmp .ne 7, 3) := by decide +kernel
theorem dX2_isOffered_68 : decode cX2_isOffered 68 = .ok (.iconst 1, 1) := by decide +kernel
theorem dX2_isOffered_69 : decode cX2_isOffered 69 = .ok (.goto 4, 3) := by decide +kernel
theorem dX2_isOffered_72 : decode cX2_isOffered 72 = .ok (.iconst 0, 1) := by decide +kernel
theorem dX2_isOffered_73 : decode cX2_isOffered 73 = .ok (.ireturn, 1) := by decide +kernel
theorem dX2_isOffered_74 : decode cX2_isOffered 74 = .ok (.iload_n 0, 1) := by decide +kernel
theorem dX2_isOffered_75 : decode cX2_isOffered 75 = .ok (.iconst 2, 1) := by decide +kernel
theorem dX2_isOffered_76 : decode cX2_isOffered 76 = .ok (.if_icmp .eq 13, 3) := by decide +kernel
theorem dX2_isOffered_79 : decode cX2_isOffered 79 = .ok (.iload_n 0, 1) := by decide +kernel
theorem dX2_isOffered_80 : decode cX2_isOffered 80 = .ok (.iconst 3, 1) := by decide +kernel
theorem dX2_isOffered_81 : decode cX2_isOffered 81 = .ok (.if_icmp .eq 8, 3) := by decide +kernel
theorem dX2_isOffered_84 : decode cX2_isOffered 84 = .ok (.iload_n 0, 1) := by decide +kernel
theorem dX2_isOffered_85 : decode cX2_isOffered 85 = .ok (.iconst 4, 1) := by decide +kernel
theorem dX2_isOffered_86 : decode cX2_isOffered 86 = .ok (.if_icmp .ne 7, 3) := by decide +kernel
theorem dX2_isOffered_89 : decode cX2_isOffered 89 = .ok (.iconst 1, 1) := by decide +kernel
theorem dX2_isOffered_90 : decode cX2_isOffered 90 = .ok (.goto 4, 3) := by decide +kernel
theorem dX2_isOffered_93 : decode cX2_isOffered 93 = .ok (.iconst 0, 1) := by decide +kernel
theorem dX2_isOffered_94 : decode cX2_isOffered 94 = .ok (.ireturn, 1) := by decide +kernel
theorem dX3_init_0 : decode cX3_init 0 = .ok (.aload_n 0, 1) := by decide +kernel
theorem dX3_init_1 : decode cX3_init 1 = .ok (.invokespecial 3, 3) := by decide +kernel
theorem dX3_init_4 : decode cX3_init 4 = .ok (.aload_n 0, 1) := by decide +kernel
theorem dX3_init_5 : decode cX3_init 5 = .ok (.bipush 6, 2) := by decide +kernel
theorem dX3_init_7 : decode cX3_init 7 = .ok (.anewarray 9, 3) := by decide +kernel
theorem dX3_init_10 : decode cX3_init 10 = .ok (.putfield 11, 3) := by decide +kernel
theorem dX3_init_13 : decode cX3_init 13 = .ok (.aload_n 0, 1) := by decide +kernel
theorem dX3_init_14 : decode cX3_init 14 = .ok (.aload_n 1, 1) := by decide +kernel
theorem dX3_init_15 : decode cX3_init 15 = .ok (.putfield 17, 3) := by decide +kernel
theorem dX3_init_18 : decode cX3_init 18 = .ok (.aload_n 0, 1) := by decide +kernel
theorem dX3_init_19 : decode cX3_init 19 = .ok (.iload_n 2, 1) := by decide +kernel
theorem dX3_init_20 : decode cX3_init 20 = .ok (.putfield 21, 3) := by decide +kernel
theorem dX3_init_23 : decode cX3_init 23 = .ok (.aload_n 0, 1) := by decide +kernel
theorem dX3_init_24 : decode cX3_init 24 = .ok (.iload_n 3, 1) := by decide +kernel
theorem dX3_init_25 : decode cX3_init 25 = .ok (.putfield 25, 3) := by decide +kernel
theorem dX3_init_28 : decode cX3_init 28 = .ok (.return_, 1) := by decide +kernel
theorem dX3_lineAt_0 : decode cX3_lineAt 0 = .ok (.iload_n 1, 1) := by decide +kernel
theorem dX3_lineAt_1 : decode cX3_lineAt 1 = .ok (.ifCond .lt 21, 3) := by decide +kernel
theorem dX3_lineAt_4 : decode cX3_lineAt 4 = .ok (.iload_n 1, 1) := by decide +kernel
theorem dX3_lineAt_5 : decode cX3_lineAt 5 = .ok (.aload_n 0, 1) := by decide +kernel
theorem dX3_lineAt_6 : decode cX3_lineAt 6 = .ok (.getfield 11, 3) := by decide +kernel
theorem dX3_lineAt_9 : decode cX3_lineAt 9 = .ok (.arraylength, 1) := by decide +kernel
theorem dX3_lineAt_10 : decode cX3_lineAt 10 = .ok (.if_icmp .ge 12, 3) := by decide +kernel
theorem dX3_lineAt_13 : decode cX3_lineAt 13 = .ok (.aload_n 0, 1) := by decide +kernel
theorem dX3_lineAt_14 : decode cX3_lineAt 14 = .ok (.getfield 11, 3) := by decide +kernel
theorem dX3_lineAt_17 : decode cX3_lineAt 17 = .ok (.iload_n 1, 1) := by decide +kernel
theorem dX3_lineAt_18 : decode cX3_lineAt 18 = .ok (.aaload, 1) := by decide +kernel
theorem dX3_lineAt_19 : decode cX3_lineAt 19 = .ok (.goto 4, 3) := by decide +kernel
theorem dX3_lineAt_22 : decode cX3_lineAt 22 = .ok (.aconst_null, 1) := by decide +kernel
theorem dX3_lineAt_23 : decode cX3_lineAt 23 = .ok (.areturn, 1) := by decide +kernel
theorem dX3_append_0 : decode cX3_append 0 = .ok (.aload_n 0, 1) := by decide +kernel
theorem dX3_append_1 : decode cX3_append 1 = .ok (.getfield 28, 3) := by decide +kernel
theorem dX3_append_4 : decode cX3_append 4 = .ok (.istore_n 2, 1) := by decide +kernel
theorem dX3_append_5 : decode cX3_append 5 = .ok (.iload_n 2, 1) := by decide +kernel
theorem dX3_append_6 : decode cX3_append 6 = .ok (.ifCond .lt 29, 3) := by decide +kernel
theorem dX3_append_9 : decode cX3_append 9 = .ok (.iload_n 2, 1) := by decide +kernel
theorem dX3_append_10 : decode cX3_append 10 = .ok (.aload_n 0, 1) := by decide +kernel
theorem dX3_append_11 : decode cX3_append 11 = .ok (.getfield 11, 3) := by decide +kernel
theorem dX3_append_14 : decode cX3_append 14 = .ok (.arraylength, 1) := by decide +kernel
theorem dX3_append_15 : decode cX3_append 15 = .ok (.if_icmp .ge 20, 3) := by decide +kernel
theorem dX3_append_18 : decode cX3_append 18 = .ok (.aload_n 0, 1) := by decide +kernel
theorem dX3_append_19 : decode cX3_append 19 = .ok (.getfield 11, 3) := by decide +kernel
theorem dX3_append_22 : decode cX3_append 22 = .ok (.iload_n 2, 1) := by decide +kernel
theorem dX3_append_23 : decode cX3_append 23 = .ok (.aload_n 1, 1) := by decide +kernel
theorem dX3_append_24 : decode cX3_append 24 = .ok (.aastore, 1) := by decide +kernel
theorem dX3_append_25 : decode cX3_append 25 = .ok (.aload_n 0, 1) := by decide +kernel
theorem dX3_append_26 : decode cX3_append 26 = .ok (.dup, 1) := by decide +kernel
theorem dX3_append_27 : decode cX3_append 27 = .ok (.getfield 28, 3) := by decide +kernel
theorem dX3_append_30 : decode cX3_append 30 = .ok (.iconst 1, 1) := by decide +kernel
theorem dX3_append_31 : decode cX3_append 31 = .ok (.iadd, 1) := by decide +kernel
theorem dX3_append_32 : decode cX3_append 32 = .ok (.putfield 28, 3) := by decide +kernel
theorem dX3_append_35 : decode cX3_append 35 = .ok (.iload_n 2, 1) := by decide +kernel
theorem dX3_append_36 : decode cX3_append 36 = .ok (.ireturn, 1) := by decide +kernel
set_option maxRecDepth 20000 in
theorem ggX3_settle_X3_keptGoods : GoodIn wsX3_settle wsX3_keptGoods := goodIn_r _ [11, 1, 3, 12, 13, 14, 15, 16, 17, 24, 25, 26, 27, 28, 29, 30, 31, 32, 33, 34, 35, 36] (by decide +kernel) (by decide +kernel)
set_option maxRecDepth 20000 in
theorem gX3_settle_X3_keptGoods : GoodIn wsX3_settle (wsV RX3 44 RX3 yX3_keptGoods wsX3_keptGoods) := goodIn_app (goodIn_of _ (by decide +kernel)) ggX3_settle_X3_keptGoods
set_option maxRecDepth 20000 in
theorem ggX3_settle_X4_netOf : GoodIn wsX3_settle wsX4_netOf := goodIn_r _ [20, 21, 22, 19, 23] (by decide +kernel) (by decide +kernel)
set_option maxRecDepth 20000 in
theorem gX3_settle_X4_netOf_n48 : GoodIn wsX3_settle (wsX4_netOf) := ggX3_settle_X4_netOf
theorem dX3_settle_0 : decode cX3_settle 0 = .ok (.aload_n 0, 1) := by decide +kernel
theorem dX3_settle_1 : decode cX3_settle 1 = .ok (.getfield 11, 3) := by decide +kernel
theorem dX3_settle_4 : decode cX3_settle 4 = .ok (.astore_n 2, 1) := by decide +kernel
theorem dX3_settle_5 : decode cX3_settle 5 = .ok (.aload_n 2, 1) := by decide +kernel
theorem dX3_settle_6 : decode cX3_settle 6 = .ok (.arraylength, 1) := by decide +kernel
theorem dX3_settle_7 : decode cX3_settle 7 = .ok (.istore_n 3, 1) := by decide +kernel
theorem dX3_settle_8 : decode cX3_settle 8 = .ok (.iconst 0, 1) := by decide +kernel
theorem dX3_settle_9 : decode cX3_settle 9 = .ok (.istore 4, 2) := by decide +kernel
theorem dX3_settle_11 : decode cX3_settle 11 = .ok (.iload 4, 2) := by decide +kernel
theorem dX3_settle_13 : decode cX3_settle 13 = .ok (.iload_n 3, 1) := by decide +kernel
theorem dX3_settle_14 : decode cX3_settle 14 = .ok (.if_icmp .ge 30, 3) := by decide +kernel
theorem dX3_settle_17 : decode cX3_settle 17 = .ok (.aload_n 2, 1) := by decide +kernel
theorem dX3_settle_18 : decode cX3_settle 18 = .ok (.iload 4, 2) := by decide +kernel
theorem dX3_settle_20 : decode cX3_settle 20 = .ok (.aaload, 1) := by decide +kernel
theorem dX3_settle_21 : decode cX3_settle 21 = .ok (.astore 5, 2) := by decide +kernel
theorem dX3_settle_23 : decode cX3_settle 23 = .ok (.aload 5, 2) := by decide +kernel
theorem dX3_settle_25 : decode cX3_settle 25 = .ok (.ifnull 13, 3) := by decide +kernel
theorem dX3_settle_28 : decode cX3_settle 28 = .ok (.aload 5, 2) := by decide +kernel
theorem dX3_settle_30 : decode cX3_settle 30 = .ok (.aload 5, 2) := by decide +kernel
theorem dX3_settle_32 : decode cX3_settle 32 = .ok (.getfield 31, 3) := by decide +kernel
theorem dX3_settle_35 : decode cX3_settle 35 = .ok (.putfield 34, 3) := by decide +kernel
theorem dX3_settle_38 : decode cX3_settle 38 = .ok (.iinc 4 1, 3) := by decide +kernel
theorem dX3_settle_41 : decode cX3_settle 41 = .ok (.goto (-30), 3) := by decide +kernel
theorem dX3_settle_44 : decode cX3_settle 44 = .ok (.aload_n 0, 1) := by decide +kernel
theorem dX3_settle_45 : decode cX3_settle 45 = .ok (.iconst 1, 1) := by decide +kernel
theorem dX3_settle_46 : decode cX3_settle 46 = .ok (.putfield 37, 3) := by decide +kernel
theorem dX3_settle_49 : decode cX3_settle 49 = .ok (.aload_n 0, 1) := by decide +kernel
theorem dX3_settle_50 : decode cX3_settle 50 = .ok (.iload_n 1, 1) := by decide +kernel
theorem dX3_settle_51 : decode cX3_settle 51 = .ok (.putfield 41, 3) := by decide +kernel
theorem dX3_settle_54 : decode cX3_settle 54 = .ok (.aload_n 0, 1) := by decide +kernel
theorem dX3_settle_55 : decode cX3_settle 55 = .ok (.aload_n 0, 1) := by decide +kernel
theorem dX3_settle_56 : decode cX3_settle 56 = .ok (.invokevirtual 44, 3) := by decide +kernel
theorem dX3_settle_59 : decode cX3_settle 59 = .ok (.invokestatic 48, 3) := by decide +kernel
theorem dX3_settle_62 : decode cX3_settle 62 = .ok (.putfield 52, 3) := by decide +kernel
theorem dX3_settle_65 : decode cX3_settle 65 = .ok (.return_, 1) := by decide +kernel
set_option maxRecDepth 20000 in
theorem ggX3_keptGoods_X1_goodsOf : GoodIn wsX3_keptGoods wsX1_goodsOf := goodIn_r _ [7, 8, 18, 19, 20, 21] (by decide +kernel) (by decide +kernel)
set_option maxRecDepth 20000 in
theorem gX3_keptGoods_X1_goodsOf : GoodIn wsX3_keptGoods (wsV RX3 55 RX1 yX1_goodsOf wsX1_goodsOf) := goodIn_app (goodIn_of _ (by decide +kernel)) ggX3_keptGoods_X1_goodsOf
theorem dX3_keptGoods_0 : decode cX3_keptGoods 0 = .ok (.iconst 0, 1) := by decide +kernel
theorem dX3_keptGoods_1 : decode cX3_keptGoods 1 = .ok (.istore_n 1, 1) := by decide +kernel
theorem dX3_keptGoods_2 : decode cX3_keptGoods 2 = .ok (.aload_n 0, 1) := by decide +kernel
theorem dX3_keptGoods_3 : decode cX3_keptGoods 3 = .ok (.getfield 11, 3) := by decide +kernel
theorem dX3_keptGoods_6 : decode cX3_keptGoods 6 = .ok (.astore_n 2, 1) := by decide +kernel
theorem dX3_keptGoods_7 : decode cX3_keptGoods 7 = .ok (.aload_n 2, 1) := by decide +kernel
theorem dX3_keptGoods_8 : decode cX3_keptGoods 8 = .ok (.arraylength, 1) := by decide +kernel
theorem dX3_keptGoods_9 : decode cX3_keptGoods 9 = .ok (.istore_n 3, 1) := by decide +kernel
theorem dX3_keptGoods_10 : decode cX3_keptGoods 10 = .ok (.iconst 0, 1) := by decide +kernel
theorem dX3_keptGoods_11 : decode cX3_keptGoods 11 = .ok (.istore 4, 2) := by decide +kernel
theorem dX3_keptGoods_13 : decode cX3_keptGoods 13 = .ok (.iload 4, 2) := by decide +kernel
theorem dX3_keptGoods_15 : decode cX3_keptGoods 15 = .ok (.iload_n 3, 1) := by decide +kernel
theorem dX3_keptGoods_16 : decode cX3_keptGoods 16 = .ok (.if_icmp .ge 33, 3) := by decide +kernel
theorem dX3_keptGoods_19 : decode cX3_keptGoods 19 = .ok (.aload_n 2, 1) := by decide +kernel
theorem dX3_keptGoods_20 : decode cX3_keptGoods 20 = .ok (.iload 4, 2) := by decide +kernel
theorem dX3_keptGoods_22 : decode cX3_keptGoods 22 = .ok (.aaload, 1) := by decide +kernel
theorem dX3_keptGoods_23 : decode cX3_keptGoods 23 = .ok (.astore 5, 2) := by decide +kernel
theorem dX3_keptGoods_25 : decode cX3_keptGoods 25 = .ok (.aload 5, 2) := by decide +kernel
theorem dX3_keptGoods_27 : decode cX3_keptGoods 27 = .ok (.ifnull 16, 3) := by decide +kernel
theorem dX3_keptGoods_30 : decode cX3_keptGoods 30 = .ok (.iload_n 1, 1) := by decide +kernel
theorem dX3_keptGoods_31 : decode cX3_keptGoods 31 = .ok (.aload 5, 2) := by decide +kernel
theorem dX3_keptGoods_33 : decode cX3_keptGoods 33 = .ok (.aload 5, 2) := by decide +kernel
theorem dX3_keptGoods_35 : decode cX3_keptGoods 35 = .ok (.getfield 34, 3) := by decide +kernel
theorem dX3_keptGoods_38 : decode cX3_keptGoods 38 = .ok (.invokevirtual 55, 3) := by decide +kernel
theorem dX3_keptGoods_41 : decode cX3_keptGoods 41 = .ok (.iadd, 1) := by decide +kernel
theorem dX3_keptGoods_42 : decode cX3_keptGoods 42 = .ok (.istore_n 1, 1) := by decide +kernel
theorem dX3_keptGoods_43 : decode cX3_keptGoods 43 = .ok (.iinc 4 1, 3) := by decide +kernel
theorem dX3_keptGoods_46 : decode cX3_keptGoods 46 = .ok (.goto (-33), 3) := by decide +kernel
theorem dX3_keptGoods_49 : decode cX3_keptGoods 49 = .ok (.iload_n 1, 1) := by decide +kernel
theorem dX3_keptGoods_50 : decode cX3_keptGoods 50 = .ok (.ireturn, 1) := by decide +kernel
set_option maxRecDepth 20000 in
theorem ggX3_freedBy_X3_keptGoods : GoodIn wsX3_freedBy wsX3_keptGoods := goodIn_r _ [11, 12, 13, 14, 15, 16, 17, 18, 19, 26, 27, 28, 29, 30, 31, 32, 33, 34, 35, 36, 37, 38] (by decide +kernel) (by decide +kernel)
set_option maxRecDepth 20000 in
theorem gX3_freedBy_X3_keptGoods : GoodIn wsX3_freedBy (wsV RX3 44 RX3 yX3_keptGoods wsX3_keptGoods) := goodIn_app (goodIn_of _ (by decide +kernel)) ggX3_freedBy_X3_keptGoods
set_option maxRecDepth 20000 in
theorem ggX3_freedBy_X1_goodsOf : GoodIn wsX3_freedBy wsX1_goodsOf := goodIn_r _ [18, 19, 35, 36, 37, 38] (by decide +kernel) (by decide +kernel)
set_option maxRecDepth 20000 in
theorem gX3_freedBy_X1_goodsOf : GoodIn wsX3_freedBy (wsV RX3 55 RX1 yX1_goodsOf wsX1_goodsOf) := goodIn_app (goodIn_of _ (by decide +kernel)) ggX3_freedBy_X1_goodsOf
set_option maxRecDepth 20000 in
theorem ggX3_freedBy_X4_netOf : GoodIn wsX3_freedBy wsX4_netOf := goodIn_r _ [22, 23, 24, 21, 25] (by decide +kernel) (by decide +kernel)
set_option maxRecDepth 20000 in
theorem gX3_freedBy_X4_netOf_n48 : GoodIn wsX3_freedBy (wsX4_netOf) := ggX3_freedBy_X4_netOf
theorem dX3_freedBy_0 : decode cX3_freedBy 0 = .ok (.aload_n 0, 1) := by decide +kernel
theorem dX3_freedBy_1 : decode cX3_freedBy 1 = .ok (.invokevirtual 44, 3) := by decide +kernel
theorem dX3_freedBy_4 : decode cX3_freedBy 4 = .ok (.aload_n 1, 1) := by decide +kernel
theorem dX3_freedBy_5 : decode cX3_freedBy 5 = .ok (.iload_n 2, 1) := by decide +kernel
theorem dX3_freedBy_6 : decode cX3_freedBy 6 = .ok (.invokevirtual 55, 3) := by decide +kernel
theorem dX3_freedBy_9 : decode cX3_freedBy 9 = .ok (.isub, 1) := by decide +kernel
theorem dX3_freedBy_10 : decode cX3_freedBy 10 = .ok (.invokestatic 48, 3) := by decide +kernel
theorem dX3_freedBy_13 : decode cX3_freedBy 13 = .ok (.istore_n 3, 1) := by decide +kernel
theorem dX3_freedBy_14 : decode cX3_freedBy 14 = .ok (.iconst 0, 1) := by decide +kernel
theorem dX3_freedBy_15 : decode cX3_freedBy 15 = .ok (.aload_n 0, 1) := by decide +kernel
theorem dX3_freedBy_16 : decode cX3_freedBy 16 = .ok (.getfield 52, 3) := by decide +kernel
theorem dX3_freedBy_19 : decode cX3_freedBy 19 = .ok (.aload_n 0, 1) := by decide +kernel
theorem dX3_freedBy_20 : decode cX3_freedBy 20 = .ok (.getfield 58, 3) := by decide +kernel
theorem dX3_freedBy_23 : decode cX3_freedBy 23 = .ok (.isub, 1) := by decide +kernel
theorem dX3_freedBy_24 : decode cX3_freedBy 24 = .ok (.iload_n 3, 1) := by decide +kernel
theorem dX3_freedBy_25 : decode cX3_freedBy 25 = .ok (.isub, 1) := by decide +kernel
theorem dX3_freedBy_26 : decode cX3_freedBy 26 = .ok (.invokestatic 61, 3) := by decide +kernel
theorem dX3_freedBy_29 : decode cX3_freedBy 29 = .ok (.ireturn, 1) := by decide +kernel
set_option maxRecDepth 20000 in
theorem ggX3_shareOf_X3_keptGoods : GoodIn wsX3_shareOf wsX3_keptGoods := goodIn_r _ [6, 1, 7, 8, 9, 10, 11, 12, 13, 37, 38, 39, 40, 41, 42, 43, 44, 45, 46, 47, 48, 49] (by decide +kernel) (by decide +kernel)
set_option maxRecDepth 20000 in
theorem gX3_shareOf_X3_keptGoods : GoodIn wsX3_shareOf (wsV RX3 44 RX3 yX3_keptGoods wsX3_keptGoods) := goodIn_app (goodIn_of _ (by decide +kernel)) ggX3_shareOf_X3_keptGoods
set_option maxRecDepth 20000 in
theorem ggX3_shareOf_X4_netOf : GoodIn wsX3_shareOf wsX4_netOf := goodIn_r _ [16, 17, 18, 15, 19] (by decide +kernel) (by decide +kernel)
set_option maxRecDepth 20000 in
theorem gX3_shareOf_X4_netOf_n48 : GoodIn wsX3_shareOf (wsX4_netOf) := ggX3_shareOf_X4_netOf
set_option maxRecDepth 20000 in
theorem ggX3_shareOf_X3_wholeShare : GoodIn wsX3_shareOf wsX3_wholeShare := goodIn_r _ [23, 7, 24, 25, 26, 5, 27, 1, 8, 9, 10, 11, 12, 13, 46, 47, 48, 49, 37, 38, 39, 40, 41, 42, 43, 44, 45] (by decide +kernel) (by decide +kernel)
set_option maxRecDepth 20000 in
theorem gX3_shareOf_X3_wholeShare : GoodIn wsX3_shareOf (wsV RX3 67 RX3 yX3_wholeShare wsX3_wholeShare) := goodIn_app (goodIn_of _ (by decide +kernel)) ggX3_shareOf_X3_wholeShare
set_option maxRecDepth 20000 in
theorem ggX3_shareOf_X3_linesAhead : GoodIn wsX3_shareOf wsX3_linesAhead := goodIn_r _ [31, 1, 32, 33, 34, 5, 35, 36, 7, 24, 25, 26, 27, 8, 9, 10, 11, 12, 13, 37, 38, 39, 40, 41, 42, 43, 44, 45, 46, 47, 48, 49] (by decide +kernel) (by decide +kernel)
set_option maxRecDepth 20000 in
theorem gX3_shareOf_X3_linesAhead : GoodIn wsX3_shareOf (wsV RX3 71 RX3 yX3_linesAhead wsX3_linesAhead) := goodIn_app (goodIn_of _ (by decide +kernel)) ggX3_shareOf_X3_linesAhead
theorem dX3_shareOf_0 : decode cX3_shareOf 0 = .ok (.aload_n 0, 1) := by decide +kernel
theorem dX3_shareOf_1 : decode cX3_shareOf 1 = .ok (.invokevirtual 44, 3) := by decide +kernel
theorem dX3_shareOf_4 : decode cX3_shareOf 4 = .ok (.istore_n 2, 1) := by decide +kernel
theorem dX3_shareOf_5 : decode cX3_shareOf 5 = .ok (.iload_n 2, 1) := by decide +kernel
theorem dX3_shareOf_6 : decode cX3_shareOf 6 = .ok (.invokestatic 48, 3) := by decide +kernel
theorem dX3_shareOf_9 : decode cX3_shareOf 9 = .ok (.istore_n 3, 1) := by decide +kernel
theorem dX3_shareOf_10 : decode cX3_shareOf 10 = .ok (.iload_n 3, 1) := by decide +kernel
theorem dX3_shareOf_11 : decode cX3_shareOf 11 = .ok (.istore 4, 2) := by decide +kernel
theorem dX3_shareOf_13 : decode cX3_shareOf 13 = .ok (.iconst 0, 1) := by decide +kernel
theorem dX3_shareOf_14 : decode cX3_shareOf 14 = .ok (.istore 5, 2) := by decide +kernel
theorem dX3_shareOf_16 : decode cX3_shareOf 16 = .ok (.iload 5, 2) := by decide +kernel
theorem dX3_shareOf_18 : decode cX3_shareOf 18 = .ok (.aload_n 0, 1) := by decide +kernel
theorem dX3_shareOf_19 : decode cX3_shareOf 19 = .ok (.getfield 11, 3) := by decide +kernel
theorem dX3_shareOf_22 : decode cX3_shareOf 22 = .ok (.arraylength, 1) := by decide +kernel
theorem dX3_shareOf_23 : decode cX3_shareOf 23 = .ok (.if_icmp .ge 22, 3) := by decide +kernel
theorem dX3_shareOf_26 : decode cX3_shareOf 26 = .ok (.iload 4, 2) := by decide +kernel
theorem dX3_shareOf_28 : decode cX3_shareOf 28 = .ok (.aload_n 0, 1) := by decide +kernel
theorem dX3_shareOf_29 : decode cX3_shareOf 29 = .ok (.iload 5, 2) := by decide +kernel
theorem dX3_shareOf_31 : decode cX3_shareOf 31 = .ok (.iload_n 3, 1) := by decide +kernel
theorem dX3_shareOf_32 : decode cX3_shareOf 32 = .ok (.iload_n 2, 1) := by decide +kernel
theorem dX3_shareOf_33 : decode cX3_shareOf 33 = .ok (.invokevirtual 67, 3) := by decide +kernel
theorem dX3_shareOf_36 : decode cX3_shareOf 36 = .ok (.isub, 1) := by decide +kernel
theorem dX3_shareOf_37 : decode cX3_shareOf 37 = .ok (.istore 4, 2) := by decide +kernel
theorem dX3_shareOf_39 : decode cX3_shareOf 39 = .ok (.iinc 5 1, 3) := by decide +kernel
theorem dX3_shareOf_42 : decode cX3_shareOf 42 = .ok (.goto (-26), 3) := by decide +kernel
theorem dX3_shareOf_45 : decode cX3_shareOf 45 = .ok (.aload_n 0, 1) := by decide +kernel
theorem dX3_shareOf_46 : decode cX3_shareOf 46 = .ok (.iload_n 1, 1) := by decide +kernel
theorem dX3_shareOf_47 : decode cX3_shareOf 47 = .ok (.iload_n 3, 1) := by decide +kernel
theorem dX3_shareOf_48 : decode cX3_shareOf 48 = .ok (.iload_n 2, 1) := by decide +kernel
theorem dX3_shareOf_49 : decode cX3_shareOf 49 = .ok (.invokevirtual 67, 3) := by decide +kernel
theorem dX3_shareOf_52 : decode cX3_shareOf 52 = .ok (.istore 5, 2) := by decide +kernel
theorem dX3_shareOf_54 : decode cX3_shareOf 54 = .ok (.aload_n 0, 1) := by decide +kernel
theorem dX3_shareOf_55 : decode cX3_shareOf 55 = .ok (.iload_n 1, 1) := by decide +kernel
theorem dX3_shareOf_56 : decode cX3_shareOf 56 = .ok (.iload_n 3, 1) := by decide +kernel
theorem dX3_shareOf_57 : decode cX3_shareOf 57 = .ok (.iload_n 2, 1) := by decide +kernel
theorem dX3_shareOf_58 : decode cX3_shareOf 58 = .ok (.invokevirtual 71, 3) := by decide +kernel
theorem dX3_shareOf_61 : decode cX3_shareOf 61 = .ok (.iload 4, 2) := by decide +kernel
theorem dX3_shareOf_63 : decode cX3_shareOf 63 = .ok (.if_icmp .ge 10, 3) := by decide +kernel
theorem dX3_shareOf_66 : decode cX3_shareOf 66 = .ok (.iload 5, 2) := by decide +kernel
theorem dX3_shareOf_68 : decode cX3_shareOf 68 = .ok (.iconst 1, 1) := by decide +kernel
theorem dX3_shareOf_69 : decode cX3_shareOf 69 = .ok (.iadd, 1) := by decide +kernel
theorem dX3_shareOf_70 : decode cX3_shareOf 70 = .ok (.goto 5, 3) := by decide +kernel
theorem dX3_shareOf_73 : decode cX3_shareOf 73 = .ok (.iload 5, 2) := by decide +kernel
theorem dX3_shareOf_75 : decode cX3_shareOf 75 = .ok (.ireturn, 1) := by decide +kernel
set_option maxRecDepth 20000 in
theorem ggX3_wholeShare_X3_lineAt : GoodIn wsX3_wholeShare wsX3_lineAt := goodIn_r _ [6, 7, 18, 19, 20, 21, 22, 23, 24, 25, 26] (by decide +kernel) (by decide +kernel)
set_option maxRecDepth 20000 in
theorem gX3_wholeShare_X3_lineAt : GoodIn wsX3_wholeShare (wsV RX3 74 RX3 yX3_lineAt wsX3_lineAt) := goodIn_app (goodIn_of _ (by decide +kernel)) ggX3_wholeShare_X3_lineAt
set_option maxRecDepth 20000 in
theorem ggX3_wholeShare_X1_goodsOf : GoodIn wsX3_wholeShare wsX1_goodsOf := goodIn_r _ [12, 13, 14, 15, 16, 17] (by decide +kernel) (by decide +kernel)
set_option maxRecDepth 20000 in
theorem gX3_wholeShare_X1_goodsOf : GoodIn wsX3_wholeShare (wsV RX3 55 RX1 yX1_goodsOf wsX1_goodsOf) := goodIn_app (goodIn_of _ (by decide +kernel)) ggX3_wholeShare_X1_goodsOf
theorem dX3_wholeShare_0 : decode cX3_wholeShare 0 = .ok (.aload_n 0, 1) := by decide +kernel
theorem dX3_wholeShare_1 : decode cX3_wholeShare 1 = .ok (.iload_n 1, 1) := by decide +kernel
theorem dX3_wholeShare_2 : decode cX3_wholeShare 2 = .ok (.invokevirtual 74, 3) := by decide +kernel
theorem dX3_wholeShare_5 : decode cX3_wholeShare 5 = .ok (.astore 4, 2) := by decide +kernel
theorem dX3_wholeShare_7 : decode cX3_wholeShare 7 = .ok (.aload 4, 2) := by decide +kernel
theorem dX3_wholeShare_9 : decode cX3_wholeShare 9 = .ok (.ifnull 7, 3) := by decide +kernel
theorem dX3_wholeShare_12 : decode cX3_wholeShare 12 = .ok (.iload_n 3, 1) := by decide +kernel
theorem dX3_wholeShare_13 : decode cX3_wholeShare 13 = .ok (.ifCond .gt 5, 3) := by decide +kernel
theorem dX3_wholeShare_16 : decode cX3_wholeShare 16 = .ok (.iconst 0, 1) := by decide +kernel
theorem dX3_wholeShare_17 : decode cX3_wholeShare 17 = .ok (.ireturn, 1) := by decide +kernel
theorem dX3_wholeShare_18 : decode cX3_wholeShare 18 = .ok (.iload_n 2, 1) := by decide +kernel
theorem dX3_wholeShare_19 : decode cX3_wholeShare 19 = .ok (.i2l, 1) := by decide +kernel
theorem dX3_wholeShare_20 : decode cX3_wholeShare 20 = .ok (.aload 4, 2) := by decide +kernel
theorem dX3_wholeShare_22 : decode cX3_wholeShare 22 = .ok (.aload 4, 2) := by decide +kernel
theorem dX3_wholeShare_24 : decode cX3_wholeShare 24 = .ok (.getfield 34, 3) := by decide +kernel
theorem dX3_wholeShare_27 : decode cX3_wholeShare 27 = .ok (.invokevirtual 55, 3) := by decide +kernel
theorem dX3_wholeShare_30 : decode cX3_wholeShare 30 = .ok (.i2l, 1) := by decide +kernel
theorem dX3_wholeShare_31 : decode cX3_wholeShare 31 = .ok (.lmul, 1) := by decide +kernel
theorem dX3_wholeShare_32 : decode cX3_wholeShare 32 = .ok (.iload_n 3, 1) := by decide +kernel
theorem dX3_wholeShare_33 : decode cX3_wholeShare 33 = .ok (.i2l, 1) := by decide +kernel
theorem dX3_wholeShare_34 : decode cX3_wholeShare 34 = .ok (.ldiv, 1) := by decide +kernel
theorem dX3_wholeShare_35 : decode cX3_wholeShare 35 = .ok (.l2i, 1) := by decide +kernel
theorem dX3_wholeShare_36 : decode cX3_wholeShare 36 = .ok (.ireturn, 1) := by decide +kernel
set_option maxRecDepth 20000 in
theorem ggX3_remainder_X3_lineAt : GoodIn wsX3_remainder wsX3_lineAt := goodIn_r _ [7, 8, 19, 20, 21, 22, 23, 24, 25, 26, 27] (by decide +kernel) (by decide +kernel)
set_option maxRecDepth 20000 in
theorem gX3_remainder_X3_lineAt : GoodIn wsX3_remainder (wsV RX3 74 RX3 yX3_lineAt wsX3_lineAt) := goodIn_app (goodIn_of _ (by decide +kernel)) ggX3_remainder_X3_lineAt
set_option maxRecDepth 20000 in
theorem ggX3_remainder_X1_goodsOf : GoodIn wsX3_remainder wsX1_goodsOf := goodIn_r _ [13, 14, 15, 16, 17, 18] (by decide +kernel) (by decide +kernel)
set_option maxRecDepth 20000 in
theorem gX3_remainder_X1_goodsOf : GoodIn wsX3_remainder (wsV RX3 55 RX1 yX1_goodsOf wsX1_goodsOf) := goodIn_app (goodIn_of _ (by decide +kernel)) ggX3_remainder_X1_goodsOf
