theorem dX0_init_0 : decode cX0_init 0 = .ok (.aload_n 0, 1) := by decide +kernel
theorem dX0_init_1 : decode cX0_init 1 = .ok (.invokespecial 3, 3) := by decide +kernel
theorem dX0_init_4 : decode cX0_init 4 = .ok (.aload_n 0, 1) := by decide +kernel
theorem dX0_init_5 : decode cX0_init 5 = .ok (.bipush 20, 2) := by decide +kernel
theorem dX0_init_7 : decode cX0_init 7 = .ok (.newarray .int, 2) := by decide +kernel
theorem dX0_init_9 : decode cX0_init 9 = .ok (.putfield 9, 3) := by decide +kernel
theorem dX0_init_12 : decode cX0_init 12 = .ok (.aload_n 0, 1) := by decide +kernel
theorem dX0_init_13 : decode cX0_init 13 = .ok (.bipush 20, 2) := by decide +kernel
theorem dX0_init_15 : decode cX0_init 15 = .ok (.newarray .int, 2) := by decide +kernel
theorem dX0_init_17 : decode cX0_init 17 = .ok (.putfield 15, 3) := by decide +kernel
theorem dX0_init_20 : decode cX0_init 20 = .ok (.aload_n 0, 1) := by decide +kernel
theorem dX0_init_21 : decode cX0_init 21 = .ok (.bipush 20, 2) := by decide +kernel
theorem dX0_init_23 : decode cX0_init 23 = .ok (.newarray .boolean, 2) := by decide +kernel
theorem dX0_init_25 : decode cX0_init 25 = .ok (.putfield 18, 3) := by decide +kernel
theorem dX0_init_28 : decode cX0_init 28 = .ok (.return_, 1) := by decide +kernel
theorem dX0_scoreOn_0 : decode cX0_scoreOn 0 = .ok (.iconst 0, 1) := by decide +kernel
theorem dX0_scoreOn_1 : decode cX0_scoreOn 1 = .ok (.istore_n 2, 1) := by decide +kernel
theorem dX0_scoreOn_2 : decode cX0_scoreOn 2 = .ok (.iconst 0, 1) := by decide +kernel
theorem dX0_scoreOn_3 : decode cX0_scoreOn 3 = .ok (.istore_n 3, 1) := by decide +kernel
theorem dX0_scoreOn_4 : decode cX0_scoreOn 4 = .ok (.iload_n 3, 1) := by decide +kernel
theorem dX0_scoreOn_5 : decode cX0_scoreOn 5 = .ok (.aload_n 0, 1) := by decide +kernel
theorem dX0_scoreOn_6 : decode cX0_scoreOn 6 = .ok (.getfield 22, 3) := by decide +kernel
theorem dX0_scoreOn_9 : decode cX0_scoreOn 9 = .ok (.if_icmp .ge 69, 3) := by decide +kernel
theorem dX0_scoreOn_12 : decode cX0_scoreOn 12 = .ok (.iload_n 3, 1) := by decide +kernel
theorem dX0_scoreOn_13 : decode cX0_scoreOn 13 = .ok (.bipush 20, 2) := by decide +kernel
theorem dX0_scoreOn_15 : decode cX0_scoreOn 15 = .ok (.if_icmp .ge 63, 3) := by decide +kernel
theorem dX0_scoreOn_18 : decode cX0_scoreOn 18 = .ok (.iload_n 1, 1) := by decide +kernel
theorem dX0_scoreOn_19 : decode cX0_scoreOn 19 = .ok (.aload_n 0, 1) := by decide +kernel
theorem dX0_scoreOn_20 : decode cX0_scoreOn 20 = .ok (.getfield 9, 3) := by decide +kernel
theorem dX0_scoreOn_23 : decode cX0_scoreOn 23 = .ok (.iload_n 3, 1) := by decide +kernel
theorem dX0_scoreOn_24 : decode cX0_scoreOn 24 = .ok (.iaload, 1) := by decide +kernel
theorem dX0_scoreOn_25 : decode cX0_scoreOn 25 = .ok (.isub, 1) := by decide +kernel
theorem dX0_scoreOn_26 : decode cX0_scoreOn 26 = .ok (.istore 4, 2) := by decide +kernel
theorem dX0_scoreOn_28 : decode cX0_scoreOn 28 = .ok (.iload 4, 2) := by decide +kernel
theorem dX0_scoreOn_30 : decode cX0_scoreOn 30 = .ok (.bipush 30, 2) := by decide +kernel
theorem dX0_scoreOn_32 : decode cX0_scoreOn 32 = .ok (.if_icmp .ge 15, 3) := by decide +kernel
theorem dX0_scoreOn_35 : decode cX0_scoreOn 35 = .ok (.iload_n 2, 1) := by decide +kernel
theorem dX0_scoreOn_36 : decode cX0_scoreOn 36 = .ok (.bipush 10, 2) := by decide +kernel
theorem dX0_scoreOn_38 : decode cX0_scoreOn 38 = .ok (.aload_n 0, 1) := by decide +kernel
theorem dX0_scoreOn_39 : decode cX0_scoreOn 39 = .ok (.getfield 15, 3) := by decide +kernel
theorem dX0_scoreOn_42 : decode cX0_scoreOn 42 = .ok (.iload_n 3, 1) := by decide +kernel
theorem dX0_scoreOn_43 : decode cX0_scoreOn 43 = .ok (.iaload, 1) := by decide +kernel
theorem dX0_scoreOn_44 : decode cX0_scoreOn 44 = .ok (.imul, 1) := by decide +kernel
theorem dX0_scoreOn_45 : decode cX0_scoreOn 45 = .ok (.iadd, 1) := by decide +kernel
theorem dX0_scoreOn_46 : decode cX0_scoreOn 46 = .ok (.istore_n 2, 1) := by decide +kernel
theorem dX0_scoreOn_47 : decode cX0_scoreOn 47 = .ok (.iload 4, 2) := by decide +kernel
theorem dX0_scoreOn_49 : decode cX0_scoreOn 49 = .ok (.bipush 90, 2) := by decide +kernel
theorem dX0_scoreOn_51 : decode cX0_scoreOn 51 = .ok (.if_icmp .ge 21, 3) := by decide +kernel
theorem dX0_scoreOn_54 : decode cX0_scoreOn 54 = .ok (.iload_n 2, 1) := by decide +kernel
theorem dX0_scoreOn_55 : decode cX0_scoreOn 55 = .ok (.aload_n 0, 1) := by decide +kernel
theorem dX0_scoreOn_56 : decode cX0_scoreOn 56 = .ok (.getfield 18, 3) := by decide +kernel
theorem dX0_scoreOn_59 : decode cX0_scoreOn 59 = .ok (.iload_n 3, 1) := by decide +kernel
theorem dX0_scoreOn_60 : decode cX0_scoreOn 60 = .ok (.baload, 1) := by decide +kernel
theorem dX0_scoreOn_61 : decode cX0_scoreOn 61 = .ok (.ifCond .eq 8, 3) := by decide +kernel
theorem dX0_scoreOn_64 : decode cX0_scoreOn 64 = .ok (.bipush 25, 2) := by decide +kernel
theorem dX0_scoreOn_66 : decode cX0_scoreOn 66 = .ok (.goto 4, 3) := by decide +kernel
theorem dX0_scoreOn_69 : decode cX0_scoreOn 69 = .ok (.iconst 5, 1) := by decide +kernel
theorem dX0_scoreOn_70 : decode cX0_scoreOn 70 = .ok (.iadd, 1) := by decide +kernel
theorem dX0_scoreOn_71 : decode cX0_scoreOn 71 = .ok (.istore_n 2, 1) := by decide +kernel
theorem dX0_scoreOn_72 : decode cX0_scoreOn 72 = .ok (.iinc 3 1, 3) := by decide +kernel
theorem dX0_scoreOn_75 : decode cX0_scoreOn 75 = .ok (.goto (-71), 3) := by decide +kernel
theorem dX0_scoreOn_78 : decode cX0_scoreOn 78 = .ok (.iload_n 2, 1) := by decide +kernel
theorem dX0_scoreOn_79 : decode cX0_scoreOn 79 = .ok (.ireturn, 1) := by decide +kernel
set_option maxRecDepth 20000 in
theorem ggX0_remember_X0_forgetBefore : GoodIn wsX0_remember wsX0_forgetBefore := goodIn_r _ [9, 1, 2, 3, 4, 10, 11, 12, 13] (by decide +kernel) (by decide +kernel)
set_option maxRecDepth 20000 in
theorem gX0_remember_X0_forgetBefore : GoodIn wsX0_remember (wsV RX0 26 RX0 yX0_forgetBefore wsX0_forgetBefore) := goodIn_app (goodIn_of _ (by decide +kernel)) ggX0_remember_X0_forgetBefore
theorem dX0_remember_0 : decode cX0_remember 0 = .ok (.aload_n 0, 1) := by decide +kernel
theorem dX0_remember_1 : decode cX0_remember 1 = .ok (.iload_n 1, 1) := by decide +kernel
theorem dX0_remember_2 : decode cX0_remember 2 = .ok (.bipush 90, 2) := by decide +kernel
theorem dX0_remember_4 : decode cX0_remember 4 = .ok (.isub, 1) := by decide +kernel
theorem dX0_remember_5 : decode cX0_remember 5 = .ok (.iconst 1, 1) := by decide +kernel
theorem dX0_remember_6 : decode cX0_remember 6 = .ok (.iadd, 1) := by decide +kernel
theorem dX0_remember_7 : decode cX0_remember 7 = .ok (.invokevirtual 26, 3) := by decide +kernel
theorem dX0_remember_10 : decode cX0_remember 10 = .ok (.aload_n 0, 1) := by decide +kernel
theorem dX0_remember_11 : decode cX0_remember 11 = .ok (.getfield 22, 3) := by decide +kernel
theorem dX0_remember_14 : decode cX0_remember 14 = .ok (.ifCond .lt 52, 3) := by decide +kernel
theorem dX0_remember_17 : decode cX0_remember 17 = .ok (.aload_n 0, 1) := by decide +kernel
theorem dX0_remember_18 : decode cX0_remember 18 = .ok (.getfield 22, 3) := by decide +kernel
theorem dX0_remember_21 : decode cX0_remember 21 = .ok (.bipush 20, 2) := by decide +kernel
theorem dX0_remember_23 : decode cX0_remember 23 = .ok (.if_icmp .ge 43, 3) := by decide +kernel
theorem dX0_remember_26 : decode cX0_remember 26 = .ok (.aload_n 0, 1) := by decide +kernel
theorem dX0_remember_27 : decode cX0_remember 27 = .ok (.getfield 9, 3) := by decide +kernel
theorem dX0_remember_30 : decode cX0_remember 30 = .ok (.aload_n 0, 1) := by decide +kernel
theorem dX0_remember_31 : decode cX0_remember 31 = .ok (.getfield 22, 3) := by decide +kernel
theorem dX0_remember_34 : decode cX0_remember 34 = .ok (.iload_n 1, 1) := by decide +kernel
theorem dX0_remember_35 : decode cX0_remember 35 = .ok (.iastore, 1) := by decide +kernel
theorem dX0_remember_36 : decode cX0_remember 36 = .ok (.aload_n 0, 1) := by decide +kernel
theorem dX0_remember_37 : decode cX0_remember 37 = .ok (.getfield 15, 3) := by decide +kernel
theorem dX0_remember_40 : decode cX0_remember 40 = .ok (.aload_n 0, 1) := by decide +kernel
theorem dX0_remember_41 : decode cX0_remember 41 = .ok (.getfield 22, 3) := by decide +kernel
theorem dX0_remember_44 : decode cX0_remember 44 = .ok (.iload_n 2, 1) := by decide +kernel
theorem dX0_remember_45 : decode cX0_remember 45 = .ok (.iastore, 1) := by decide +kernel
theorem dX0_remember_46 : decode cX0_remember 46 = .ok (.aload_n 0, 1) := by decide +kernel
theorem dX0_remember_47 : decode cX0_remember 47 = .ok (.getfield 18, 3) := by decide +kernel
theorem dX0_remember_50 : decode cX0_remember 50 = .ok (.aload_n 0, 1) := by decide +kernel
theorem dX0_remember_51 : decode cX0_remember 51 = .ok (.getfield 22, 3) := by decide +kernel
theorem dX0_remember_54 : decode cX0_remember 54 = .ok (.iload_n 3, 1) := by decide +kernel
theorem dX0_remember_55 : decode cX0_remember 55 = .ok (.bastore, 1) := by decide +kernel
theorem dX0_remember_56 : decode cX0_remember 56 = .ok (.aload_n 0, 1) := by decide +kernel
theorem dX0_remember_57 : decode cX0_remember 57 = .ok (.dup, 1) := by decide +kernel
theorem dX0_remember_58 : decode cX0_remember 58 = .ok (.getfield 22, 3) := by decide +kernel
theorem dX0_remember_61 : decode cX0_remember 61 = .ok (.iconst 1, 1) := by decide +kernel
theorem dX0_remember_62 : decode cX0_remember 62 = .ok (.iadd, 1) := by decide +kernel
theorem dX0_remember_63 : decode cX0_remember 63 = .ok (.putfield 22, 3) := by decide +kernel
theorem dX0_remember_66 : decode cX0_remember 66 = .ok (.return_, 1) := by decide +kernel
theorem dX0_forgetBefore_0 : decode cX0_forgetBefore 0 = .ok (.iconst 0, 1) := by decide +kernel
theorem dX0_forgetBefore_1 : decode cX0_forgetBefore 1 = .ok (.istore_n 2, 1) := by decide +kernel
theorem dX0_forgetBefore_2 : decode cX0_forgetBefore 2 = .ok (.iconst 0, 1) := by decide +kernel
theorem dX0_forgetBefore_3 : decode cX0_forgetBefore 3 = .ok (.istore_n 3, 1) := by decide +kernel
theorem dX0_forgetBefore_4 : decode cX0_forgetBefore 4 = .ok (.iload_n 3, 1) := by decide +kernel
theorem dX0_forgetBefore_5 : decode cX0_forgetBefore 5 = .ok (.aload_n 0, 1) := by decide +kernel
theorem dX0_forgetBefore_6 : decode cX0_forgetBefore 6 = .ok (.getfield 22, 3) := by decide +kernel
theorem dX0_forgetBefore_9 : decode cX0_forgetBefore 9 = .ok (.if_icmp .ge 70, 3) := by decide +kernel
theorem dX0_forgetBefore_12 : decode cX0_forgetBefore 12 = .ok (.iload_n 3, 1) := by decide +kernel
theorem dX0_forgetBefore_13 : decode cX0_forgetBefore 13 = .ok (.bipush 20, 2) := by decide +kernel
theorem dX0_forgetBefore_15 : decode cX0_forgetBefore 15 = .ok (.if_icmp .ge 64, 3) := by decide +kernel
theorem dX0_forgetBefore_18 : decode cX0_forgetBefore 18 = .ok (.aload_n 0, 1) := by decide +kernel
theorem dX0_forgetBefore_19 : decode cX0_forgetBefore 19 = .ok (.getfield 9, 3) := by decide +kernel
theorem dX0_forgetBefore_22 : decode cX0_forgetBefore 22 = .ok (.iload_n 3, 1) := by decide +kernel
theorem dX0_forgetBefore_23 : decode cX0_forgetBefore 23 = .ok (.iaload, 1) := by decide +kernel
theorem dX0_forgetBefore_24 : decode cX0_forgetBefore 24 = .ok (.iload_n 1, 1) := by decide +kernel
theorem dX0_forgetBefore_25 : decode cX0_forgetBefore 25 = .ok (.if_icmp .lt 48, 3) := by decide +kernel
theorem dX0_forgetBefore_28 : decode cX0_forgetBefore 28 = .ok (.iload_n 2, 1) := by decide +kernel
theorem dX0_forgetBefore_29 : decode cX0_forgetBefore 29 = .ok (.bipush 20, 2) := by decide +kernel
theorem dX0_forgetBefore_31 : decode cX0_forgetBefore 31 = .ok (.if_icmp .ge 42, 3) := by decide +kernel
theorem dX0_forgetBefore_34 : decode cX0_forgetBefore 34 = .ok (.aload_n 0, 1) := by decide +kernel
theorem dX0_forgetBefore_35 : decode cX0_forgetBefore 35 = .ok (.getfield 9, 3) := by decide +kernel
theorem dX0_forgetBefore_38 : decode cX0_forgetBefore 38 = .ok (.iload_n 2, 1) := by decide +kernel
theorem dX0_forgetBefore_39 : decode cX0_forgetBefore 39 = .ok (.aload_n 0, 1) := by decide +kernel
theorem dX0_forgetBefore_40 : decode cX0_forgetBefore 40 = .ok (.getfield 9, 3) := by decide +kernel
theorem dX0_forgetBefore_43 : decode cX0_forgetBefore 43 = .ok (.iload_n 3, 1) := by decide +kernel
theorem dX0_forgetBefore_44 : decode cX0_forgetBefore 44 = .ok (.iaload, 1) := by decide +kernel
theorem dX0_forgetBefore_45 : decode cX0_forgetBefore 45 = .ok (.iastore, 1) := by decide +kernel
theorem dX0_forgetBefore_46 : decode cX0_forgetBefore 46 = .ok (.aload_n 0, 1) := by decide +kernel
theorem dX0_forgetBefore_47 : decode cX0_forgetBefore 47 = .ok (.getfield 15, 3) := by decide +kernel
theorem dX0_forgetBefore_50 : decode cX0_forgetBefore 50 = .ok (.iload_n 2, 1) := by decide +kernel
theorem dX0_forgetBefore_51 : decode cX0_forgetBefore 51 = .ok (.aload_n 0, 1) := by decide +kernel
theorem dX0_forgetBefore_52 : decode cX0_forgetBefore 52 = .ok (.getfield 15, 3) := by decide +kernel
theorem dX0_forgetBefore_55 : decode cX0_forgetBefore 55 = .ok (.iload_n 3, 1) := by decide +kernel
theorem dX0_forgetBefore_56 : decode cX0_forgetBefore 56 = .ok (.iaload, 1) := by decide +kernel
theorem dX0_forgetBefore_57 : decode cX0_forgetBefore 57 = .ok (.iastore, 1) := by decide +kernel
theorem dX0_forgetBefore_58 : decode cX0_forgetBefore 58 = .ok (.aload_n 0, 1) := by decide +kernel
theorem dX0_forgetBefore_59 : decode cX0_forgetBefore 59 = .ok (.getfield 18, 3) := by decide +kernel
theorem dX0_forgetBefore_62 : decode cX0_forgetBefore 62 = .ok (.iload_n 2, 1) := by decide +kernel
theorem dX0_forgetBefore_63 : decode cX0_forgetBefore 63 = .ok (.aload_n 0, 1) := by decide +kernel
theorem dX0_forgetBefore_64 : decode cX0_forgetBefore 64 = .ok (.getfield 18, 3) := by decide +kernel
theorem dX0_forgetBefore_67 : decode cX0_forgetBefore 67 = .ok (.iload_n 3, 1) := by decide +kernel
theorem dX0_forgetBefore_68 : decode cX0_forgetBefore 68 = .ok (.baload, 1) := by decide +kernel
theorem dX0_forgetBefore_69 : decode cX0_forgetBefore 69 = .ok (.bastore, 1) := by decide +kernel
theorem dX0_forgetBefore_70 : decode cX0_forgetBefore 70 = .ok (.iinc 2 1, 3) := by decide +kernel
theorem dX0_forgetBefore_73 : decode cX0_forgetBefore 73 = .ok (.iinc 3 1, 3) := by decide +kernel
theorem dX0_forgetBefore_76 : decode cX0_forgetBefore 76 = .ok (.goto (-72), 3) := by decide +kernel
theorem dX0_forgetBefore_79 : decode cX0_forgetBefore 79 = .ok (.aload_n 0, 1) := by decide +kernel
theorem dX0_forgetBefore_80 : decode cX0_forgetBefore 80 = .ok (.iload_n 2, 1) := by decide +kernel
theorem dX0_forgetBefore_81 : decode cX0_forgetBefore 81 = .ok (.putfield 22, 3) := by decide +kernel
theorem dX0_forgetBefore_84 : decode cX0_forgetBefore 84 = .ok (.return_, 1) := by decide +kernel
theorem dX1_init_0 : decode cX1_init 0 = .ok (.aload_n 0, 1) := by decide +kernel
theorem dX1_init_1 : decode cX1_init 1 = .ok (.invokespecial 1, 3) := by decide +kernel
theorem dX1_init_4 : decode cX1_init 4 = .ok (.aload_n 0, 1) := by decide +kernel
theorem dX1_init_5 : decode cX1_init 5 = .ok (.aload_n 1, 1) := by decide +kernel
theorem dX1_init_6 : decode cX1_init 6 = .ok (.putfield 7, 3) := by decide +kernel
theorem dX1_init_9 : decode cX1_init 9 = .ok (.aload_n 0, 1) := by decide +kernel
theorem dX1_init_10 : decode cX1_init 10 = .ok (.iload_n 2, 1) := by decide +kernel
theorem dX1_init_11 : decode cX1_init 11 = .ok (.putfield 13, 3) := by decide +kernel
theorem dX1_init_14 : decode cX1_init 14 = .ok (.aload_n 0, 1) := by decide +kernel
theorem dX1_init_15 : decode cX1_init 15 = .ok (.aload_n 1, 1) := by decide +kernel
theorem dX1_init_16 : decode cX1_init 16 = .ok (.getfield 17, 3) := by decide +kernel
theorem dX1_init_19 : decode cX1_init 19 = .ok (.putfield 22, 3) := by decide +kernel
theorem dX1_init_22 : decode cX1_init 22 = .ok (.return_, 1) := by decide +kernel
theorem dX1_goodsOf_0 : decode cX1_goodsOf 0 = .ok (.iload_n 1, 1) := by decide +kernel
theorem dX1_goodsOf_1 : decode cX1_goodsOf 1 = .ok (.aload_n 0, 1) := by decide +kernel
theorem dX1_goodsOf_2 : decode cX1_goodsOf 2 = .ok (.getfield 22, 3) := by decide +kernel
theorem dX1_goodsOf_5 : decode cX1_goodsOf 5 = .ok (.imul, 1) := by decide +kernel
theorem dX1_goodsOf_6 : decode cX1_goodsOf 6 = .ok (.ireturn, 1) := by decide +kernel
theorem dX2_init_0 : decode cX2_init 0 = .ok (.aload_n 0, 1) := by decide +kernel
theorem dX2_init_1 : decode cX2_init 1 = .ok (.invokespecial 3, 3) := by decide +kernel
theorem dX2_init_4 : decode cX2_init 4 = .ok (.aload_n 0, 1) := by decide +kernel
theorem dX2_init_5 : decode cX2_init 5 = .ok (.sipush 1000, 3) := by decide +kernel
theorem dX2_init_8 : decode cX2_init 8 = .ok (.putfield 9, 3) := by decide +kernel
theorem dX2_init_11 : decode cX2_init 11 = .ok (.aload_n 0, 1) := by decide +kernel
theorem dX2_init_12 : decode cX2_init 12 = .ok (.sipush 200, 3) := by decide +kernel
theorem dX2_init_15 : decode cX2_init 15 = .ok (.putfield 15, 3) := by decide +kernel
theorem dX2_init_18 : decode cX2_init 18 = .ok (.aload_n 0, 1) := by decide +kernel
theorem dX2_init_19 : decode cX2_init 19 = .ok (.sipush 300, 3) := by decide +kernel
theorem dX2_init_22 : decode cX2_init 22 = .ok (.putfield 18, 3) := by decide +kernel
theorem dX2_init_25 : decode cX2_init 25 = .ok (.aload_n 0, 1) := by decide +kernel
theorem dX2_init_26 : decode cX2_init 26 = .ok (.iconst 5, 1) := by decide +kernel
theorem dX2_init_27 : decode cX2_init 27 = .ok (.newarray .int, 2) := by decide +kernel
theorem dX2_init_29 : decode cX2_init 29 = .ok (.putfield 21, 3) := by decide +kernel
theorem dX2_init_32 : decode cX2_init 32 = .ok (.return_, 1) := by decide +kernel
theorem dX2_unitsAt_0 : decode cX2_unitsAt 0 = .ok (.iload_n 1, 1) := by decide +kernel
theorem dX2_unitsAt_1 : decode cX2_unitsAt 1 = .ok (.ifCond .lt 21, 3) := by decide +kernel
theorem dX2_unitsAt_4 : decode cX2_unitsAt 4 = .ok (.iload_n 1, 1) := by decide +kernel
theorem dX2_unitsAt_5 : decode cX2_unitsAt 5 = .ok (.aload_n 0, 1) := by decide +kernel
theorem dX2_unitsAt_6 : decode cX2_unitsAt 6 = .ok (.getfield 21, 3) := by decide +kernel
theorem dX2_unitsAt_9 : decode cX2_unitsAt 9 = .ok (.arraylength, 1) := by decide +kernel
theorem dX2_unitsAt_10 : decode cX2_unitsAt 10 = .ok (.if_icmp .ge 12, 3) := by decide +kernel
theorem dX2_unitsAt_13 : decode cX2_unitsAt 13 = .ok (.aload_n 0, 1) := by decide +kernel
theorem dX2_unitsAt_14 : decode cX2_unitsAt 14 = .ok (.getfield 21, 3) := by decide +kernel
theorem dX2_unitsAt_17 : decode cX2_unitsAt 17 = .ok (.iload_n 1, 1) := by decide +kernel
theorem dX2_unitsAt_18 : decode cX2_unitsAt 18 = .ok (.iaload, 1) := by decide +kernel
theorem dX2_unitsAt_19 : decode cX2_unitsAt 19 = .ok (.goto 4, 3) := by decide +kernel
theorem dX2_unitsAt_22 : decode cX2_unitsAt 22 = .ok (.iconst 0, 1) := by decide +kernel
theorem dX2_unitsAt_23 : decode cX2_unitsAt 23 = .ok (.ireturn, 1) := by decide +kernel
theorem dX2_move_0 : decode cX2_move 0 = .ok (.iload_n 1, 1) := by decide +kernel
theorem dX2_move_1 : decode cX2_move 1 = .ok (.ifCond .lt 22, 3) := by decide +kernel
theorem dX2_move_4 : decode cX2_move 4 = .ok (.iload_n 1, 1) := by decide +kernel
theorem dX2_move_5 : decode cX2_move 5 = .ok (.aload_n 0, 1) := by decide +kernel
theorem dX2_move_6 : decode cX2_move 6 = .ok (.getfield 21, 3) := by decide +kernel
theorem dX2_move_9 : decode cX2_move 9 = .ok (.arraylength, 1) := by decide +kernel
theorem dX2_move_10 : decode cX2_move 10 = .ok (.if_icmp .ge 13, 3) := by decide +kernel
theorem dX2_move_13 : decode cX2_move 13 = .ok (.aload_n 0, 1) := by decide +kernel
theorem dX2_move_14 : decode cX2_move 14 = .ok (.getfield 21, 3) := by decide +kernel
theorem dX2_move_17 : decode cX2_move 17 = .ok (.iload_n 1, 1) := by decide +kernel
theorem dX2_move_18 : decode cX2_move 18 = .ok (.dup2, 1) := by decide +kernel
theorem dX2_move_19 : decode cX2_move 19 = .ok (.iaload, 1) := by decide +kernel
theorem dX2_move_20 : decode cX2_move 20 = .ok (.iload_n 2, 1) := by decide +kernel
theorem dX2_move_21 : decode cX2_move 21 = .ok (.iadd, 1) := by decide +kernel
theorem dX2_move_22 : decode cX2_move 22 = .ok (.iastore, 1) := by decide +kernel
theorem dX2_move_23 : decode cX2_move 23 = .ok (.return_, 1) := by decide +kernel
set_option maxRecDepth 20000 in
theorem ggX2_optionFor_X2_isOffered : GoodIn wsX2_optionFor wsX2_isOffered := goodIn_r _ [4] (by decide +kernel) (by decide +kernel)
set_option maxRecDepth 20000 in
theorem gX2_optionFor_X2_isOffered : GoodIn wsX2_optionFor (va_wsS RX2 25 yX2_isOffered wsX2_isOffered) := goodIn_app (goodIn_of _ (by decide +kernel)) ggX2_optionFor_X2_isOffered
set_option maxRecDepth 20000 in
theorem ggX2_optionFor_X2_worthOf : GoodIn wsX2_optionFor wsX2_worthOf := goodIn_r _ [8, 9, 10, 11, 12, 13, 14, 15, 16, 3, 17, 18, 19, 20, 21, 22, 23, 24, 25, 26, 27, 28, 29, 30, 31] (by decide +kernel) (by decide +kernel)
set_option maxRecDepth 20000 in
theorem gX2_optionFor_X2_worthOf : GoodIn wsX2_optionFor (wsV RX2 29 RX2 yX2_worthOf wsX2_worthOf) := goodIn_app (goodIn_of _ (by decide +kernel)) ggX2_optionFor_X2_worthOf
theorem dX2_optionFor_0 : decode cX2_optionFor 0 = .ok (.iconst (-1), 1) := by decide +kernel
theorem dX2_optionFor_1 : decode cX2_optionFor 1 = .ok (.istore_n 2, 1) := by decide +kernel
theorem dX2_optionFor_2 : decode cX2_optionFor 2 = .ok (.iconst 0, 1) := by decide +kernel
theorem dX2_optionFor_3 : decode cX2_optionFor 3 = .ok (.istore_n 3, 1) := by decide +kernel
theorem dX2_optionFor_4 : decode cX2_optionFor 4 = .ok (.iload_n 3, 1) := by decide +kernel
theorem dX2_optionFor_5 : decode cX2_optionFor 5 = .ok (.iconst 5, 1) := by decide +kernel
theorem dX2_optionFor_6 : decode cX2_optionFor 6 = .ok (.if_icmp .ge 38, 3) := by decide +kernel
theorem dX2_optionFor_9 : decode cX2_optionFor 9 = .ok (.iload_n 3, 1) := by decide +kernel
theorem dX2_optionFor_10 : decode cX2_optionFor 10 = .ok (.iload_n 1, 1) := by decide +kernel
theorem dX2_optionFor_11 : decode cX2_optionFor 11 = .ok (.invokestatic 25, 3) := by decide +kernel
theorem dX2_optionFor_14 : decode cX2_optionFor 14 = .ok (.ifCond .eq 24, 3) := by decide +kernel
theorem dX2_optionFor_17 : decode cX2_optionFor 17 = .ok (.iload_n 2, 1) := by decide +kernel
theorem dX2_optionFor_18 : decode cX2_optionFor 18 = .ok (.ifCond .lt 18, 3) := by decide +kernel
theorem dX2_optionFor_21 : decode cX2_optionFor 21 = .ok (.aload_n 0, 1) := by decide +kernel
theorem dX2_optionFor_22 : decode cX2_optionFor 22 = .ok (.iload_n 3, 1) := by decide +kernel
theorem dX2_optionFor_23 : decode cX2_optionFor 23 = .ok (.iload_n 1, 1) := by decide +kernel
theorem dX2_optionFor_24 : decode cX2_optionFor 24 = .ok (.invokevirtual 29, 3) := by decide +kernel
theorem dX2_optionFor_27 : decode cX2_optionFor 27 = .ok (.aload_n 0, 1) := by decide +kernel
theorem dX2_optionFor_28 : decode cX2_optionFor 28 = .ok (.iload_n 2, 1) := by decide +kernel
theorem dX2_optionFor_29 : decode cX2_optionFor 29 = .ok (.iload_n 1, 1) := by decide +kernel
theorem dX2_optionFor_30 : decode cX2_optionFor 30 = .ok (.invokevirtual 29, 3) := by decide +kernel
theorem dX2_optionFor_33 : decode cX2_optionFor 33 = .ok (.if_icmp .le 5, 3) := by decide +kernel
theorem dX2_optionFor_36 : decode cX2_optionFor 36 = .ok (.iload_n 3, 1) := by decide +kernel
theorem dX2_optionFor_37 : decode cX2_optionFor 37 = .ok (.istore_n 2, 1) := by decide +kernel
theorem dX2_optionFor_38 : decode cX2_optionFor 38 = .ok (.iinc 3 1, 3) := by decide +kernel
theorem dX2_optionFor_41 : decode cX2_optionFor 41 = .ok (.goto (-37), 3) := by decide +kernel
theorem dX2_optionFor_44 : decode cX2_optionFor 44 = .ok (.iload_n 2, 1) := by decide +kernel
theorem dX2_optionFor_45 : decode cX2_optionFor 45 = .ok (.ireturn, 1) := by decide +kernel
set_option maxRecDepth 20000 in
theorem ggX2_worthOf_X2_repairWorth : GoodIn wsX2_worthOf wsX2_repairWorth := goodIn_r _ [10, 1, 11, 21, 22, 23, 24] (by decide +kernel) (by decide +kernel)
set_option maxRecDepth 20000 in
theorem gX2_worthOf_X2_repairWorth : GoodIn wsX2_worthOf (wsV RX2 33 RX2 yX2_repairWorth wsX2_repairWorth) := goodIn_app (goodIn_of _ (by decide +kernel)) ggX2_worthOf_X2_repairWorth
set_option maxRecDepth 20000 in
theorem ggX2_worthOf_X2_salvageWorth : GoodIn wsX2_worthOf wsX2_salvageWorth := goodIn_r _ [15, 16, 21, 22, 23, 24] (by decide +kernel) (by decide +kernel)
set_option maxRecDepth 20000 in
theorem gX2_worthOf_X2_salvageWorth : GoodIn wsX2_worthOf (wsV RX2 37 RX2 yX2_salvageWorth wsX2_salvageWorth) := goodIn_app (goodIn_of _ (by decide +kernel)) ggX2_worthOf_X2_salvageWorth
set_option maxRecDepth 20000 in
theorem ggX2_worthOf_J9_floorDiv_7cf53 : GoodIn wsX2_worthOf wsJ9_floorDiv_7cf53 := goodIn_r _ [20] (by decide +kernel) (by decide +kernel)
set_option maxRecDepth 20000 in
theorem gX2_worthOf_J9_floorDiv_7cf53 : GoodIn wsX2_worthOf (va_wsS RX2 45 yJ9_floorDiv_7cf53 wsJ9_floorDiv_7cf53) := goodIn_app (goodIn_of _ (by decide +kernel)) ggX2_worthOf_J9_floorDiv_7cf53
theorem dX2_worthOf_0 : decode cX2_worthOf 0 = .ok (.iload_n 1, 1) := by decide +kernel
theorem dX2_worthOf_1 : decode cX2_worthOf 1 = .ok (.tableswitch 86 0 3 #[31, 48, 76, 81], 31) := by decide +kernel
theorem dX2_worthOf_32 : decode cX2_worthOf 32 = .ok (.iload_n 2, 1) := by decide +kernel
theorem dX2_worthOf_33 : decode cX2_worthOf 33 = .ok (.ifCond .ne 8, 3) := by decide +kernel
theorem dX2_worthOf_36 : decode cX2_worthOf 36 = .ok (.bipush 100, 2) := by decide +kernel
theorem dX2_worthOf_38 : decode cX2_worthOf 38 = .ok (.goto 5, 3) := by decide +kernel
theorem dX2_worthOf_41 : decode cX2_worthOf 41 = .ok (.bipush 46, 2) := by decide +kernel
theorem dX2_worthOf_43 : decode cX2_worthOf 43 = .ok (.aload_n 0, 1) := by decide +kernel
theorem dX2_worthOf_44 : decode cX2_worthOf 44 = .ok (.getfield 9, 3) := by decide +kernel
theorem dX2_worthOf_47 : decode cX2_worthOf 47 = .ok (.imul, 1) := by decide +kernel
theorem dX2_worthOf_48 : decode cX2_worthOf 48 = .ok (.ireturn, 1) := by decide +kernel
theorem dX2_worthOf_49 : decode cX2_worthOf 49 = .ok (.bipush 68, 2) := by decide +kernel
theorem dX2_worthOf_51 : decode cX2_worthOf 51 = .ok (.aload_n 0, 1) := by decide +kernel
theorem dX2_worthOf_52 : decode cX2_worthOf 52 = .ok (.getfield 9, 3) := by decide +kernel
theorem dX2_worthOf_55 : decode cX2_worthOf 55 = .ok (.imul, 1) := by decide +kernel
theorem dX2_worthOf_56 : decode cX2_worthOf 56 = .ok (.sipush 5000, 3) := by decide +kernel
theorem dX2_worthOf_59 : decode cX2_worthOf 59 = .ok (.isub, 1) := by decide +kernel
theorem dX2_worthOf_60 : decode cX2_worthOf 60 = .ok (.aload_n 0, 1) := by decide +kernel
theorem dX2_worthOf_61 : decode cX2_worthOf 61 = .ok (.invokevirtual 33, 3) := by decide +kernel
theorem dX2_worthOf_64 : decode cX2_worthOf 64 = .ok (.aload_n 0, 1) := by decide +kernel
theorem dX2_worthOf_65 : decode cX2_worthOf 65 = .ok (.invokevirtual 37, 3) := by decide +kernel
theorem dX2_worthOf_68 : decode cX2_worthOf 68 = .ok (.invokestatic 40, 3) := by decide +kernel
theorem dX2_worthOf_71 : decode cX2_worthOf 71 = .ok (.iconst 5, 1) := by decide +kernel
theorem dX2_worthOf_72 : decode cX2_worthOf 72 = .ok (.invokestatic 45, 3) := by decide +kernel
theorem dX2_worthOf_75 : decode cX2_worthOf 75 = .ok (.iadd, 1) := by decide +kernel
theorem dX2_worthOf_76 : decode cX2_worthOf 76 = .ok (.ireturn, 1) := by decide +kernel
theorem dX2_worthOf_77 : decode cX2_worthOf 77 = .ok (.aload_n 0, 1) := by decide +kernel
theorem dX2_worthOf_78 : decode cX2_worthOf 78 = .ok (.invokevirtual 33, 3) := by decide +kernel
theorem dX2_worthOf_81 : decode cX2_worthOf 81 = .ok (.ireturn, 1) := by decide +kernel
theorem dX2_worthOf_82 : decode cX2_worthOf 82 = .ok (.aload_n 0, 1) := by decide +kernel
theorem dX2_worthOf_83 : decode cX2_worthOf 83 = .ok (.invokevirtual 37, 3) := by decide +kernel
theorem dX2_worthOf_86 : decode cX2_worthOf 86 = .ok (.ireturn, 1) := by decide +kernel
theorem dX2_worthOf_87 : decode cX2_worthOf 87 = .ok (.bipush 60, 2) := by decide +kernel
theorem dX2_worthOf_89 : decode cX2_worthOf 89 = .ok (.aload_n 0, 1) := by decide +kernel
theorem dX2_worthOf_90 : decode cX2_worthOf 90 = .ok (.getfield 9, 3) := by decide +kernel
theorem dX2_worthOf_93 : decode cX2_worthOf 93 = .ok (.imul, 1) := by decide +kernel
theorem dX2_worthOf_94 : decode cX2_worthOf 94 = .ok (.ireturn, 1) := by decide +kernel
theorem dX2_repairWorth_0 : decode cX2_repairWorth 0 = .ok (.bipush 80, 2) := by decide +kernel
theorem dX2_repairWorth_2 : decode cX2_repairWorth 2 = .ok (.aload_n 0, 1) := by decide +kernel
theorem dX2_repairWorth_3 : decode cX2_repairWorth 3 = .ok (.getfield 9, 3) := by decide +kernel
theorem dX2_repairWorth_6 : decode cX2_repairWorth 6 = .ok (.imul, 1) := by decide +kernel
theorem dX2_repairWorth_7 : decode cX2_repairWorth 7 = .ok (.bipush 100, 2) := by decide +kernel
theorem dX2_repairWorth_9 : decode cX2_repairWorth 9 = .ok (.aload_n 0, 1) := by decide +kernel
theorem dX2_repairWorth_10 : decode cX2_repairWorth 10 = .ok (.getfield 18, 3) := by decide +kernel
theorem dX2_repairWorth_13 : decode cX2_repairWorth 13 = .ok (.imul, 1) := by decide +kernel
theorem dX2_repairWorth_14 : decode cX2_repairWorth 14 = .ok (.isub, 1) := by decide +kernel
theorem dX2_repairWorth_15 : decode cX2_repairWorth 15 = .ok (.ireturn, 1) := by decide +kernel
theorem dX2_salvageWorth_0 : decode cX2_salvageWorth 0 = .ok (.bipush 100, 2) := by decide +kernel
theorem dX2_salvageWorth_2 : decode cX2_salvageWorth 2 = .ok (.aload_n 0, 1) := by decide +kernel
theorem dX2_salvageWorth_3 : decode cX2_salvageWorth 3 = .ok (.getfield 15, 3) := by decide +kernel
theorem dX2_salvageWorth_6 : decode cX2_salvageWorth 6 = .ok (.imul, 1) := by decide +kernel
theorem dX2_salvageWorth_7 : decode cX2_salvageWorth 7 = .ok (.ireturn, 1) := by decide +kernel
theorem dX2_isOffered_0 : decode cX2_isOffered 0 = .ok (.iload_n 1, 1) := by decide +kernel
theorem dX2_isOffered_1 : decode cX2_isOffered 1 = .ok (.tableswitch 73 0 2 #[27, 37, 57], 27) := by decide +kernel
theorem dX2_isOffered_28 : decode cX2_isOffered 28 = .ok (.iload_n 0, 1) := by decide +kernel
theorem dX2_isOffered_29 : decode cX2_isOffered 29 = .ok (.ifCond .ne 7, 3) := by decide +kernel
theorem dX2_isOffered_32 : decode cX2_isOffered 32 = .ok (.iconst 1, 1) := by decide +kernel
theorem dX2_isOffered_33 : decode cX2_isOffered 33 = .ok (.goto 4, 3) := by decide +kernel
theorem dX2_isOffered_36 : decode cX2_isOffered 36 = .ok (.iconst 0, 1) := by decide +kernel
theorem dX2_isOffered_37 : decode cX2_isOffered 37 = .ok (.ireturn, 1) := by decide +kernel
theorem dX2_isOffered_38 : decode cX2_isOffered 38 = .ok (.iload_n 0, 1) := by decide +kernel
theorem dX2_isOffered_39 : decode cX2_isOffered 39 = .ok (.ifCond .eq 13, 3) := by decide +kernel
theorem dX2_isOffered_42 : decode cX2_isOffered 42 = .ok (.iload_n 0, 1) := by decide +kernel
theorem dX2_isOffered_43 : decode cX2_isOffered 43 = .ok (.iconst 1, 1) := by decide +kernel
theorem dX2_isOffered_44 : decode cX2_isOffered 44 = .ok (.if_icmp .eq 8, 3) := by decide +kernel
theorem dX2_isOffered_47 : decode cX2_isOffered 47 = .ok (.iload_n 0, 1) := by decide +kernel
theorem dX2_isOffered_48 : decode cX2_isOffered 48 = .ok (.iconst 3, 1) := by decide +kernel
theorem dX2_isOffered_49 : decode cX2_isOffered 49 = .ok (.if_icmp .ne 7, 3) := by decide +kernel
theorem dX2_isOffered_52 : decode cX2_isOffered 52 = .ok (.iconst 1, 1) := by decide +kernel
theorem dX2_isOffered_53 : decode cX2_isOffered 53 = .ok (.goto 4, 3) := by decide +kernel
theorem dX2_isOffered_56 : decode cX2_isOffered 56 = .ok (.iconst 0, 1) := by decide +kernel
theorem dX2_isOffered_57 : decode cX2_isOffered 57 = .ok (.ireturn, 1) := by decide +kernel
theorem dX2_isOffered_58 : decode cX2_isOffered 58 = .ok (.iload_n 0, 1) := by decide +kernel
theorem dX2_isOffered_59 : decode cX2_isOffered 59 = .ok (.iconst 2, 1) := by decide +kernel
theorem dX2_isOffered_60 : decode cX2_isOffered 60 = .ok (.if_icmp .eq 8, 3) := by decide +kernel
theorem dX2_isOffered_63 : decode cX2_isOffered 63 = .ok (.iload_n 0, 1) := by decide +kernel
theorem dX2_isOffered_64 : decode cX2_isOffered 64 = .ok (.iconst 3, 1) := by decide +kernel
theorem dX2_isOffered_65 : decode cX2_isOffered 65 = .ok (.if_icmp .ne 7, 3) := by decide +kernel
theorem dX2_isOffered_68 : decode cX2_isOffered 68 = .ok (.iconst 1, 1) := by decide +kernel
theorem dX2_isOffered_69 : decode cX2_isOffered 69 = .ok (.goto 4, 3) := by decide +kernel
theorem dX2_isOffered_72 : decode cX2_isOffered 72 = .ok (.iconst 0, 1) := by decide +kernel
theorem dX2_isOffered_73 : decode cX2_isOffered 73 = .ok (.ireturn, 1) := by decide +kernel
theorem dX2_isOffered_74 : decode cX2_isOffered 74 = .ok (.iload_n 0, 1) := by decide +kernel
theorem dX2_isOffered_75 : decode cX2_isOffered 75 = .ok (.iconst 2, 1) := by decide +kernel
theorem dX2_isOffered_76 : decode cX2_isOffered 76 = .ok (.if_icmp .eq 13, 3) := by decide +kernel
theorem dX2_isOffered_79 : decode cX2_isOffered 79 = .ok (.iload_n 0, 1) := by decide +kernel
theorem dX2_isOffered_80 : decode cX2_isOffered 80 = .ok (.iconst 3, 1) := by decide +kernel
theorem dX2_isOffered_81 : decode cX2_isOffered 81 = .ok (.if_icmp .eq 8, 3) := by decide +kernel
theorem dX2_isOffered_84 : decode cX2_isOffered 84 = .ok (.iload_n 0, 1) := by decide +kernel
theorem dX2_isOffered_85 : decode cX2_isOffered 85 = .ok (.iconst 4, 1) := by decide +kernel
theorem dX2_isOffered_86 : decode cX2_isOffered 86 = .ok (.if_icmp .ne 7, 3) := by decide +kernel
theorem dX2_isOffered_89 : decode cX2_isOffered 89 = .ok (.iconst 1, 1) := by decide +kernel
theorem dX2_isOffered_90 : decode cX2_isOffered 90 = .ok (.goto 4, 3) := by decide +kernel
theorem dX2_isOffered_93 : decode cX2_isOffered 93 = .ok (.iconst 0, 1) := by decide +kernel
theorem dX2_isOffered_94 : decode cX2_isOffered 94 = .ok (.ireturn, 1) := by decide +kernel
theorem dX3_init_0 : decode cX3_init 0 = .ok (.aload_n 0, 1) := by decide +kernel
theorem dX3_init_1 : decode cX3_init 1 = .ok (.invokespecial 3, 3) := by decide +kernel
theorem dX3_init_4 : decode cX3_init 4 = .ok (.aload_n 0, 1) := by decide +kernel
theorem dX3_init_5 : decode cX3_init 5 = .ok (.bipush 6, 2) := by decide +kernel
theorem dX3_init_7 : decode cX3_init 7 = .ok (.anewarray 9, 3) := by decide +kernel
theorem dX3_init_10 : decode cX3_init 10 = .ok (.putfield 11, 3) := by decide +kernel
theorem dX3_init_13 : decode cX3_init 13 = .ok (.aload_n 0, 1) := by decide +kernel
theorem dX3_init_14 : decode cX3_init 14 = .ok (.aload_n 1, 1) := by decide +kernel
theorem dX3_init_15 : decode cX3_init 15 = .ok (.putfield 17, 3) := by decide +kernel
theorem dX3_init_18 : decode cX3_init 18 = .ok (.aload_n 0, 1) := by decide +kernel
theorem dX3_init_19 : decode cX3_init 19 = .ok (.iload_n 2, 1) := by decide +kernel
theorem dX3_init_20 : decode cX3_init 20 = .ok (.putfield 21, 3) := by decide +kernel
theorem dX3_init_23 : decode cX3_init 23 = .ok (.aload_n 0, 1) := by decide +kernel
theorem dX3_init_24 : decode cX3_init 24 = .ok (.iload_n 3, 1) := by decide +kernel
theorem dX3_init_25 : decode cX3_init 25 = .ok (.putfield 25, 3) := by decide +kernel
theorem dX3_init_28 : decode cX3_init 28 = .ok (.return_, 1) := by decide +kernel
theorem dX3_lineAt_0 : decode cX3_lineAt 0 = .ok (.iload_n 1, 1) := by decide +kernel
theorem dX3_lineAt_1 : decode cX3_lineAt 1 = .ok (.ifCond .lt 21, 3) := by decide +kernel
theorem dX3_lineAt_4 : decode cX3_lineAt 4 = .ok (.iload_n 1, 1) := by decide +kernel
theorem dX3_lineAt_5 : decode cX3_lineAt 5 = .ok (.aload_n 0, 1) := by decide +kernel
theorem dX3_lineAt_6 : decode cX3_lineAt 6 = .ok (.getfield 11, 3) := by decide +kernel
theorem dX3_lineAt_9 : decode cX3_lineAt 9 = .ok (.arraylength, 1) := by decide +kernel
theorem dX3_lineAt_10 : decode cX3_lineAt 10 = .ok (.if_icmp .ge 12, 3) := by decide +kernel
theorem dX3_lineAt_13 : decode cX3_lineAt 13 = .ok (.aload_n 0, 1) := by decide +kernel
theorem dX3_lineAt_14 : decode cX3_lineAt 14 = .ok (.getfield 11, 3) := by decide +kernel
theorem dX3_lineAt_17 : decode cX3_lineAt 17 = .ok (.iload_n 1, 1) := by decide +kernel
theorem dX3_lineAt_18 : decode cX3_lineAt 18 = .ok (.aaload, 1) := by decide +kernel
theorem dX3_lineAt_19 : decode cX3_lineAt 19 = .ok (.goto 4, 3) := by decide +kernel
theorem dX3_lineAt_22 : decode cX3_lineAt 22 = .ok (.aconst_null, 1) := by decide +kernel
theorem dX3_lineAt_23 : decode cX3_lineAt 23 = .ok (.areturn, 1) := by decide +kernel
theorem dX3_append_0 : decode cX3_append 0 = .ok (.aload_n 0, 1) := by decide +kernel
theorem dX3_append_1 : decode cX3_append 1 = .ok (.getfield 28, 3) := by decide +kernel
theorem dX3_append_4 : decode cX3_append 4 = .ok (.istore_n 2, 1) := by decide +kernel
theorem dX3_append_5 : decode cX3_append 5 = .ok (.iload_n 2, 1) := by decide +kernel
theorem dX3_append_6 : decode cX3_append 6 = .ok (.ifCond .lt 29, 3) := by decide +kernel
theorem dX3_append_9 : decode cX3_append 9 = .ok (.iload_n 2, 1) := by decide +kernel
theorem dX3_append_10 : decode cX3_append 10 = .ok (.aload_n 0, 1) := by decide +kernel
theorem dX3_append_11 : decode cX3_append 11 = .ok (.getfield 11, 3) := by decide +kernel
theorem dX3_append_14 : decode cX3_append 14 = .ok (.arraylength, 1) := by decide +kernel
theorem dX3_append_15 : decode cX3_append 15 = .ok (.if_icmp .ge 20, 3) := by decide +kernel
theorem dX3_append_18 : decode cX3_append 18 = .ok (.aload_n 0, 1) := by decide +kernel
theorem dX3_append_19 : decode cX3_append 19 = .ok (.getfield 11, 3) := by decide +kernel
theorem dX3_append_22 : decode cX3_append 22 = .ok (.iload_n 2, 1) := by decide +kernel
theorem dX3_append_23 : decode cX3_append 23 = .ok (.aload_n 1, 1) := by decide +kernel
theorem dX3_append_24 : decode cX3_append 24 = .ok (.aastore, 1) := by decide +kernel
theorem dX3_append_25 : decode cX3_append 25 = .ok (.aload_n 0, 1) := by decide +kernel
theorem dX3_append_26 : decode cX3_append 26 = .ok (.dup, 1) := by decide +kernel
theorem dX3_append_27 : decode cX3_append 27 = .ok (.getfield 28, 3) := by decide +kernel
theorem dX3_append_30 : decode cX3_append 30 = .ok (.iconst 1, 1) := by decide +kernel
theorem dX3_append_31 : decode cX3_append 31 = .ok (.iadd, 1) := by decide +kernel
theorem dX3_append_32 : decode cX3_append 32 = .ok (.putfield 28, 3) := by decide +kernel
theorem dX3_append_35 : decode cX3_append 35 = .ok (.iload_n 2, 1) := by decide +kernel
theorem dX3_append_36 : decode cX3_append 36 = .ok (.ireturn, 1) := by decide +kernel
set_option maxRecDepth 20000 in
theorem ggX3_settle_X3_keptGoods : GoodIn wsX3_settle wsX3_keptGoods := goodIn_r _ [11, 1, 3, 12, 13, 14, 15, 16, 17, 24, 25, 26, 27, 28, 29, 30, 31, 32, 33, 34, 35, 36] (by decide +kernel) (by decide +kernel)
set_option maxRecDepth 20000 in
theorem gX3_settle_X3_keptGoods : GoodIn wsX3_settle (wsV RX3 44 RX3 yX3_keptGoods wsX3_keptGoods) := goodIn_app (goodIn_of _ (by decide +kernel)) ggX3_settle_X3_keptGoods
set_option maxRecDepth 20000 in
theorem ggX3_settle_X4_netOf : GoodIn wsX3_settle wsX4_netOf := goodIn_r _ [20, 21, 22, 19, 23] (by decide +kernel) (by decide +kernel)
set_option maxRecDepth 20000 in
theorem gX3_settle_X4_netOf_n48 : GoodIn wsX3_settle (wsX4_netOf) := ggX3_settle_X4_netOf
theorem dX3_settle_0 : decode cX3_settle 0 = .ok (.aload_n 0, 1) := by decide +kernel
theorem dX3_settle_1 : decode cX3_settle 1 = .ok (.getfield 11, 3) := by decide +kernel
theorem dX3_settle_4 : decode cX3_settle 4 = .ok (.astore_n 2, 1) := by decide +kernel
theorem dX3_settle_5 : decode cX3_settle 5 = .ok (.aload_n 2, 1) := by decide +kernel
theorem dX3_settle_6 : decode cX3_settle 6 = .ok (.arraylength, 1) := by decide +kernel
theorem dX3_settle_7 : decode cX3_settle 7 = .ok (.istore_n 3, 1) := by decide +kernel
theorem dX3_settle_8 : decode cX3_settle 8 = .ok (.iconst 0, 1) := by decide +kernel
theorem dX3_settle_9 : decode cX3_settle 9 = .ok (.istore 4, 2) := by decide +kernel
theorem dX3_settle_11 : decode cX3_settle 11 = .ok (.iload 4, 2) := by decide +kernel
theorem dX3_settle_13 : decode cX3_settle 13 = .ok (.iload_n 3, 1) := by decide +kernel
theorem dX3_settle_14 : decode cX3_settle 14 = .ok (.if_icmp .ge 30, 3) := by decide +kernel
theorem dX3_settle_17 : decode cX3_settle 17 = .ok (.aload_n 2, 1) := by decide +kernel
theorem dX3_settle_18 : decode cX3_settle 18 = .ok (.iload 4, 2) := by decide +kernel
theorem dX3_settle_20 : decode cX3_settle 20 = .ok (.aaload, 1) := by decide +kernel
theorem dX3_settle_21 : decode cX3_settle 21 = .ok (.astore 5, 2) := by decide +kernel
theorem dX3_settle_23 : decode cX3_settle 23 = .ok (.aload 5, 2) := by decide +kernel
theorem dX3_settle_25 : decode cX3_settle 25 = .ok (.ifnull 13, 3) := by decide +kernel
theorem dX3_settle_28 : decode cX3_settle 28 = .ok (.aload 5, 2) := by decide +kernel
theorem dX3_settle_30 : decode cX3_settle 30 = .ok (.aload 5, 2) := by decide +kernel
theorem dX3_settle_32 : decode cX3_settle 32 = .ok (.getfield 31, 3) := by decide +kernel
theorem dX3_settle_35 : decode cX3_settle 35 = .ok (.putfield 34, 3) := by decide +kernel
theorem dX3_settle_38 : decode cX3_settle 38 = .ok (.iinc 4 1, 3) := by decide +kernel
theorem dX3_settle_41 : decode cX3_settle 41 = .ok (.goto (-30), 3) := by decide +kernel
theorem dX3_settle_44 : decode cX3_settle 44 = .ok (.aload_n 0, 1) := by decide +kernel
theorem dX3_settle_45 : decode cX3_settle 45 = .ok (.iconst 1, 1) := by decide +kernel
theorem dX3_settle_46 : decode cX3_settle 46 = .ok (.putfield 37, 3) := by decide +kernel
theorem dX3_settle_49 : decode cX3_settle 49 = .ok (.aload_n 0, 1) := by decide +kernel
theorem dX3_settle_50 : decode cX3_settle 50 = .ok (.iload_n 1, 1) := by decide +kernel
theorem dX3_settle_51 : decode cX3_settle 51 = .ok (.putfield 41, 3) := by decide +kernel
theorem dX3_settle_54 : decode cX3_settle 54 = .ok (.aload_n 0, 1) := by decide +kernel
theorem dX3_settle_55 : decode cX3_settle 55 = .ok (.aload_n 0, 1) := by decide +kernel
theorem dX3_settle_56 : decode cX3_settle 56 = .ok (.invokevirtual 44, 3) := by decide +kernel
theorem dX3_settle_59 : decode cX3_settle 59 = .ok (.invokestatic 48, 3) := by decide +kernel
theorem dX3_settle_62 : decode cX3_settle 62 = .ok (.putfield 52, 3) := by decide +kernel
theorem dX3_settle_65 : decode cX3_settle 65 = .ok (.return_, 1) := by decide +kernel
set_option maxRecDepth 20000 in
theorem ggX3_keptGoods_X1_goodsOf : GoodIn wsX3_keptGoods wsX1_goodsOf := goodIn_r _ [7, 8, 18, 19, 20, 21] (by decide +kernel) (by decide +kernel)
set_option maxRecDepth 20000 in
theorem gX3_keptGoods_X1_goodsOf : GoodIn wsX3_keptGoods (wsV RX3 55 RX1 yX1_goodsOf wsX1_goodsOf) := goodIn_app (goodIn_of _ (by decide +kernel)) ggX3_keptGoods_X1_goodsOf
theorem dX3_keptGoods_0 : decode cX3_keptGoods 0 = .ok (.iconst 0, 1) := by decide +kernel
theorem dX3_keptGoods_1 : decode cX3_keptGoods 1 = .ok (.istore_n 1, 1) := by decide +kernel
theorem dX3_keptGoods_2 : decode cX3_keptGoods 2 = .ok (.aload_n 0, 1) := by decide +kernel
theorem dX3_keptGoods_3 : decode cX3_keptGoods 3 = .ok (.getfield 11, 3) := by decide +kernel
theorem dX3_keptGoods_6 : decode cX3_keptGoods 6 = .ok (.astore_n 2, 1) := by decide +kernel
theorem dX3_keptGoods_7 : decode cX3_keptGoods 7 = .ok (.aload_n 2, 1) := by decide +kernel
theorem dX3_keptGoods_8 : decode cX3_keptGoods 8 = .ok (.arraylength, 1) := by decide +kernel
theorem dX3_keptGoods_9 : decode cX3_keptGoods 9 = .ok (.istore_n 3, 1) := by decide +kernel
theorem dX3_keptGoods_10 : decode cX3_keptGoods 10 = .ok (.iconst 0, 1) := by decide +kernel
theorem dX3_keptGoods_11 : decode cX3_keptGoods 11 = .ok (.istore 4, 2) := by decide +kernel
theorem dX3_keptGoods_13 : decode cX3_keptGoods 13 = .ok (.iload 4, 2) := by decide +kernel
theorem dX3_keptGoods_15 : decode cX3_keptGoods 15 = .ok (.iload_n 3, 1) := by decide +kernel
theorem dX3_keptGoods_16 : decode cX3_keptGoods 16 = .ok (.if_icmp .ge 33, 3) := by decide +kernel
theorem dX3_keptGoods_19 : decode cX3_keptGoods 19 = .ok (.aload_n 2, 1) := by decide +kernel
theorem dX3_keptGoods_20 : decode cX3_keptGoods 20 = .ok (.iload 4, 2) := by decide +kernel
theorem dX3_keptGoods_22 : decode cX3_keptGoods 22 = .ok (.aaload, 1) := by decide +kernel
theorem dX3_keptGoods_23 : decode cX3_keptGoods 23 = .ok (.astore 5, 2) := by decide +kernel
theorem dX3_keptGoods_25 : decode cX3_keptGoods 25 = .ok (.aload 5, 2) := by decide +kernel
theorem dX3_keptGoods_27 : decode cX3_keptGoods 27 = .ok (.ifnull 16, 3) := by decide +kernel
theorem dX3_keptGoods_30 : decode cX3_keptGoods 30 = .ok (.iload_n 1, 1) := by decide +kernel
theorem dX3_keptGoods_31 : decode cX3_keptGoods 31 = .ok (.aload 5, 2) := by decide +kernel
theorem dX3_keptGoods_33 : decode cX3_keptGoods 33 = .ok (.aload 5, 2) := by decide +kernel
theorem dX3_keptGoods_35 : decode cX3_keptGoods 35 = .ok (.getfield 34, 3) := by decide +kernel
theorem dX3_keptGoods_38 : decode cX3_keptGoods 38 = .ok (.invokevirtual 55, 3) := by decide +kernel
theorem dX3_keptGoods_41 : decode cX3_keptGoods 41 = .ok (.iadd, 1) := by decide +kernel
theorem dX3_keptGoods_42 : decode cX3_keptGoods 42 = .ok (.istore_n 1, 1) := by decide +kernel
theorem dX3_keptGoods_43 : decode cX3_keptGoods 43 = .ok (.iinc 4 1, 3) := by decide +kernel
theorem dX3_keptGoods_46 : decode cX3_keptGoods 46 = .ok (.goto (-33), 3) := by decide +kernel
theorem dX3_keptGoods_49 : decode cX3_keptGoods 49 = .ok (.iload_n 1, 1) := by decide +kernel
theorem dX3_keptGoods_50 : decode cX3_keptGoods 50 = .ok (.ireturn, 1) := by decide +kernel
set_option maxRecDepth 20000 in
theorem ggX3_freedBy_X3_keptGoods : GoodIn wsX3_freedBy wsX3_keptGoods := goodIn_r _ [11, 12, 13, 14, 15, 16, 17, 18, 19, 26, 27, 28, 29, 30, 31, 32, 33, 34, 35, 36, 37, 38] (by decide +kernel) (by decide +kernel)
set_option maxRecDepth 20000 in
theorem gX3_freedBy_X3_keptGoods : GoodIn wsX3_freedBy (wsV RX3 44 RX3 yX3_keptGoods wsX3_keptGoods) := goodIn_app (goodIn_of _ (by decide +kernel)) ggX3_freedBy_X3_keptGoods
set_option maxRecDepth 20000 in
theorem ggX3_freedBy_X1_goodsOf : GoodIn wsX3_freedBy wsX1_goodsOf := goodIn_r _ [18, 19, 35, 36, 37, 38] (by decide +kernel) (by decide +kernel)
set_option maxRecDepth 20000 in
theorem gX3_freedBy_X1_goodsOf : GoodIn wsX3_freedBy (wsV RX3 55 RX1 yX1_goodsOf wsX1_goodsOf) := goodIn_app (goodIn_of _ (by decide +kernel)) ggX3_freedBy_X1_goodsOf
set_option maxRecDepth 20000 in
theorem ggX3_freedBy_X4_netOf : GoodIn wsX3_freedBy wsX4_netOf := goodIn_r _ [22, 23, 24, 21, 25] (by decide +kernel) (by decide +kernel)
set_option maxRecDepth 20000 in
theorem gX3_freedBy_X4_netOf_n48 : GoodIn wsX3_freedBy (wsX4_netOf) := ggX3_freedBy_X4_netOf
theorem dX3_freedBy_0 : decode cX3_freedBy 0 = .ok (.aload_n 0, 1) := by decide +kernel
theorem dX3_freedBy_1 : decode cX3_freedBy 1 = .ok (.invokevirtual 44, 3) := by decide +kernel
theorem dX3_freedBy_4 : decode cX3_freedBy 4 = .ok (.aload_n 1, 1) := by decide +kernel
theorem dX3_freedBy_5 : decode cX3_freedBy 5 = .ok (.iload_n 2, 1) := by decide +kernel
theorem dX3_freedBy_6 : decode cX3_freedBy 6 = .ok (.invokevirtual 55, 3) := by decide +kernel
theorem dX3_freedBy_9 : decode cX3_freedBy 9 = .ok (.isub, 1) := by decide +kernel
theorem dX3_freedBy_10 : decode cX3_freedBy 10 = .ok (.invokestatic 48, 3) := by decide +kernel
theorem dX3_freedBy_13 : decode cX3_freedBy 13 = .ok (.istore_n 3, 1) := by decide +kernel
theorem dX3_freedBy_14 : decode cX3_freedBy 14 = .ok (.iconst 0, 1) := by decide +kernel
theorem dX3_freedBy_15 : decode cX3_freedBy 15 = .ok (.aload_n 0, 1) := by decide +kernel
theorem dX3_freedBy_16 : decode cX3_freedBy 16 = .ok (.getfield 52, 3) := by decide +kernel
theorem dX3_freedBy_19 : decode cX3_freedBy 19 = .ok (.aload_n 0, 1) := by decide +kernel
theorem dX3_freedBy_20 : decode cX3_freedBy 20 = .ok (.getfield 58, 3) := by decide +kernel
theorem dX3_freedBy_23 : decode cX3_freedBy 23 = .ok (.isub, 1) := by decide +kernel
theorem dX3_freedBy_24 : decode cX3_freedBy 24 = .ok (.iload_n 3, 1) := by decide +kernel
theorem dX3_freedBy_25 : decode cX3_freedBy 25 = .ok (.isub, 1) := by decide +kernel
theorem dX3_freedBy_26 : decode cX3_freedBy 26 = .ok (.invokestatic 61, 3) := by decide +kernel
theorem dX3_freedBy_29 : decode cX3_freedBy 29 = .ok (.ireturn, 1) := by decide +kernel
set_option maxRecDepth 20000 in
theorem ggX3_shareOf_X3_keptGoods : GoodIn wsX3_shareOf wsX3_keptGoods := goodIn_r _ [6, 1, 7, 8, 9, 10, 11, 12, 13, 37, 38, 39, 40, 41, 42, 43, 44, 45, 46, 47, 48, 49] (by decide +kernel) (by decide +kernel)
set_option maxRecDepth 20000 in
theorem gX3_shareOf_X3_keptGoods : GoodIn wsX3_shareOf (wsV RX3 44 RX3 yX3_keptGoods wsX3_keptGoods) := goodIn_app (goodIn_of _ (by decide +kernel)) ggX3_shareOf_X3_keptGoods
set_option maxRecDepth 20000 in
theorem ggX3_shareOf_X4_netOf : GoodIn wsX3_shareOf wsX4_netOf := goodIn_r _ [16, 17, 18, 15, 19] (by decide +kernel) (by decide +kernel)
set_option maxRecDepth 20000 in
theorem gX3_shareOf_X4_netOf_n48 : GoodIn wsX3_shareOf (wsX4_netOf) := ggX3_shareOf_X4_netOf
set_option maxRecDepth 20000 in
theorem ggX3_shareOf_X3_wholeShare : GoodIn wsX3_shareOf wsX3_wholeShare := goodIn_r _ [23, 7, 24, 25, 26, 5, 27, 1, 8, 9, 10, 11, 12, 13, 46, 47, 48, 49, 37, 38, 39, 40, 41, 42, 43, 44, 45] (by decide +kernel) (by decide +kernel)
set_option maxRecDepth 20000 in
theorem gX3_shareOf_X3_wholeShare : GoodIn wsX3_shareOf (wsV RX3 67 RX3 yX3_wholeShare wsX3_wholeShare) := goodIn_app (goodIn_of _ (by decide +kernel)) ggX3_shareOf_X3_wholeShare
set_option maxRecDepth 20000 in
theorem ggX3_shareOf_X3_linesAhead : GoodIn wsX3_shareOf wsX3_linesAhead := goodIn_r _ [31, 1, 32, 33, 34, 5, 35, 36, 7, 24, 25, 26, 27, 8, 9, 10, 11, 12, 13, 37, 38, 39, 40, 41, 42, 43, 44, 45, 46, 47, 48, 49] (by decide +kernel) (by decide +kernel)
set_option maxRecDepth 20000 in
theorem gX3_shareOf_X3_linesAhead : GoodIn wsX3_shareOf (wsV RX3 71 RX3 yX3_linesAhead wsX3_linesAhead) := goodIn_app (goodIn_of _ (by decide +kernel)) ggX3_shareOf_X3_linesAhead
theorem dX3_shareOf_0 : decode cX3_shareOf 0 = .ok (.aload_n 0, 1) := by decide +kernel
theorem dX3_shareOf_1 : decode cX3_shareOf 1 = .ok (.invokevirtual 44, 3) := by decide +kernel
theorem dX3_shareOf_4 : decode cX3_shareOf 4 = .ok (.istore_n 2, 1) := by decide +kernel
theorem dX3_shareOf_5 : decode cX3_shareOf 5 = .ok (.iload_n 2, 1) := by decide +kernel
theorem dX3_shareOf_6 : decode cX3_shareOf 6 = .ok (.invokestatic 48, 3) := by decide +kernel
theorem dX3_shareOf_9 : decode cX3_shareOf 9 = .ok (.istore_n 3, 1) := by decide +kernel
theorem dX3_shareOf_10 : decode cX3_shareOf 10 = .ok (.iload_n 3, 1) := by decide +kernel
theorem dX3_shareOf_11 : decode cX3_shareOf 11 = .ok (.istore 4, 2) := by decide +kernel
theorem dX3_shareOf_13 : decode cX3_shareOf 13 = .ok (.iconst 0, 1) := by decide +kernel
theorem dX3_shareOf_14 : decode cX3_shareOf 14 = .ok (.istore 5, 2) := by decide +kernel
theorem dX3_shareOf_16 : decode cX3_shareOf 16 = .ok (.iload 5, 2) := by decide +kernel
theorem dX3_shareOf_18 : decode cX3_shareOf 18 = .ok (.aload_n 0, 1) := by decide +kernel
theorem dX3_shareOf_19 : decode cX3_shareOf 19 = .ok (.getfield 11, 3) := by decide +kernel
theorem dX3_shareOf_22 : decode cX3_shareOf 22 = .ok (.arraylength, 1) := by decide +kernel
theorem dX3_shareOf_23 : decode cX3_shareOf 23 = .ok (.if_icmp .ge 22, 3) := by decide +kernel
theorem dX3_shareOf_26 : decode cX3_shareOf 26 = .ok (.iload 4, 2) := by decide +kernel
theorem dX3_shareOf_28 : decode cX3_shareOf 28 = .ok (.aload_n 0, 1) := by decide +kernel
theorem dX3_shareOf_29 : decode cX3_shareOf 29 = .ok (.iload 5, 2) := by decide +kernel
theorem dX3_shareOf_31 : decode cX3_shareOf 31 = .ok (.iload_n 3, 1) := by decide +kernel
theorem dX3_shareOf_32 : decode cX3_shareOf 32 = .ok (.iload_n 2, 1) := by decide +kernel
theorem dX3_shareOf_33 : decode cX3_shareOf 33 = .ok (.invokevirtual 67, 3) := by decide +kernel
theorem dX3_shareOf_36 : decode cX3_shareOf 36 = .ok (.isub, 1) := by decide +kernel
theorem dX3_shareOf_37 : decode cX3_shareOf 37 = .ok (.istore 4, 2) := by decide +kernel
theorem dX3_shareOf_39 : decode cX3_shareOf 39 = .ok (.iinc 5 1, 3) := by decide +kernel
theorem dX3_shareOf_42 : decode cX3_shareOf 42 = .ok (.goto (-26), 3) := by decide +kernel
theorem dX3_shareOf_45 : decode cX3_shareOf 45 = .ok (.aload_n 0, 1) := by decide +kernel
theorem dX3_shareOf_46 : decode cX3_shareOf 46 = .ok (.iload_n 1, 1) := by decide +kernel
theorem dX3_shareOf_47 : decode cX3_shareOf 47 = .ok (.iload_n 3, 1) := by decide +kernel
theorem dX3_shareOf_48 : decode cX3_shareOf 48 = .ok (.iload_n 2, 1) := by decide +kernel
theorem dX3_shareOf_49 : decode cX3_shareOf 49 = .ok (.invokevirtual 67, 3) := by decide +kernel
theorem dX3_shareOf_52 : decode cX3_shareOf 52 = .ok (.istore 5, 2) := by decide +kernel
theorem dX3_shareOf_54 : decode cX3_shareOf 54 = .ok (.aload_n 0, 1) := by decide +kernel
theorem dX3_shareOf_55 : decode cX3_shareOf 55 = .ok (.iload_n 1, 1) := by decide +kernel
theorem dX3_shareOf_56 : decode cX3_shareOf 56 = .ok (.iload_n 3, 1) := by decide +kernel
theorem dX3_shareOf_57 : decode cX3_shareOf 57 = .ok (.iload_n 2, 1) := by decide +kernel
theorem dX3_shareOf_58 : decode cX3_shareOf 58 = .ok (.invokevirtual 71, 3) := by decide +kernel
theorem dX3_shareOf_61 : decode cX3_shareOf 61 = .ok (.iload 4, 2) := by decide +kernel
theorem dX3_shareOf_63 : decode cX3_shareOf 63 = .ok (.if_icmp .ge 10, 3) := by decide +kernel
theorem dX3_shareOf_66 : decode cX3_shareOf 66 = .ok (.iload 5, 2) := by decide +kernel
theorem dX3_shareOf_68 : decode cX3_shareOf 68 = .ok (.iconst 1, 1) := by decide +kernel
theorem dX3_shareOf_69 : decode cX3_shareOf 69 = .ok (.iadd, 1) := by decide +kernel
theorem dX3_shareOf_70 : decode cX3_shareOf 70 = .ok (.goto 5, 3) := by decide +kernel
theorem dX3_shareOf_73 : decode cX3_shareOf 73 = .ok (.iload 5, 2) := by decide +kernel
theorem dX3_shareOf_75 : decode cX3_shareOf 75 = .ok (.ireturn, 1) := by decide +kernel
set_option maxRecDepth 20000 in
theorem ggX3_wholeShare_X3_lineAt : GoodIn wsX3_wholeShare wsX3_lineAt := goodIn_r _ [6, 7, 18, 19, 20, 21, 22, 23, 24, 25, 26] (by decide +kernel) (by decide +kernel)
set_option maxRecDepth 20000 in
theorem gX3_wholeShare_X3_lineAt : GoodIn wsX3_wholeShare (wsV RX3 74 RX3 yX3_lineAt wsX3_lineAt) := goodIn_app (goodIn_of _ (by decide +kernel)) ggX3_wholeShare_X3_lineAt
set_option maxRecDepth 20000 in
theorem ggX3_wholeShare_X1_goodsOf : GoodIn wsX3_wholeShare wsX1_goodsOf := goodIn_r _ [12, 13, 14, 15, 16, 17] (by decide +kernel) (by decide +kernel)
set_option maxRecDepth 20000 in
theorem gX3_wholeShare_X1_goodsOf : GoodIn wsX3_wholeShare (wsV RX3 55 RX1 yX1_goodsOf wsX1_goodsOf) := goodIn_app (goodIn_of _ (by decide +kernel)) ggX3_wholeShare_X1_goodsOf
theorem dX3_wholeShare_0 : decode cX3_wholeShare 0 = .ok (.aload_n 0, 1) := by decide +kernel
theorem dX3_wholeShare_1 : decode cX3_wholeShare 1 = .ok (.iload_n 1, 1) := by decide +kernel
theorem dX3_wholeShare_2 : decode cX3_wholeShare 2 = .ok (.invokevirtual 74, 3) := by decide +kernel
theorem dX3_wholeShare_5 : decode cX3_wholeShare 5 = .ok (.astore 4, 2) := by decide +kernel
theorem dX3_wholeShare_7 : decode cX3_wholeShare 7 = .ok (.aload 4, 2) := by decide +kernel
theorem dX3_wholeShare_9 : decode cX3_wholeShare 9 = .ok (.ifnull 7, 3) := by decide +kernel
theorem dX3_wholeShare_12 : decode cX3_wholeShare 12 = .ok (.iload_n 3, 1) := by decide +kernel
theorem dX3_wholeShare_13 : decode cX3_wholeShare 13 = .ok (.ifCond .gt 5, 3) := by decide +kernel
theorem dX3_wholeShare_16 : decode cX3_wholeShare 16 = .ok (.iconst 0, 1) := by decide +kernel
theorem dX3_wholeShare_17 : decode cX3_wholeShare 17 = .ok (.ireturn, 1) := by decide +kernel
theorem dX3_wholeShare_18 : decode cX3_wholeShare 18 = .ok (.iload_n 2, 1) := by decide +kernel
theorem dX3_wholeShare_19 : decode cX3_wholeShare 19 = .ok (.i2l, 1) := by decide +kernel
theorem dX3_wholeShare_20 : decode cX3_wholeShare 20 = .ok (.aload 4, 2) := by decide +kernel
theorem dX3_wholeShare_22 : decode cX3_wholeShare 22 = .ok (.aload 4, 2) := by decide +kernel
theorem dX3_wholeShare_24 : decode cX3_wholeShare 24 = .ok (.getfield 34, 3) := by decide +kernel
theorem dX3_wholeShare_27 : decode cX3_wholeShare 27 = .ok (.invokevirtual 55, 3) := by decide +kernel
theorem dX3_wholeShare_30 : decode cX3_wholeShare 30 = .ok (.i2l, 1) := by decide +kernel
theorem dX3_wholeShare_31 : decode cX3_wholeShare 31 = .ok (.lmul, 1) := by decide +kernel
theorem dX3_wholeShare_32 : decode cX3_wholeShare 32 = .ok (.iload_n 3, 1) := by decide +kernel
theorem dX3_wholeShare_33 : decode cX3_wholeShare 33 = .ok (.i2l, 1) := by decide +kernel
theorem dX3_wholeShare_34 : decode cX3_wholeShare 34 = .ok (.ldiv, 1) := by decide +kernel
theorem dX3_wholeShare_35 : decode cX3_wholeShare 35 = .ok (.l2i, 1) := by decide +kernel
theorem dX3_wholeShare_36 : decode cX3_wholeShare 36 = .ok (.ireturn, 1) := by decide +kernel
set_option maxRecDepth 20000 in
theorem ggX3_remainder_X3_lineAt : GoodIn wsX3_remainder wsX3_lineAt := goodIn_r _ [7, 8, 19, 20, 21, 22, 23, 24, 25, 26, 27] (by decide +kernel) (by decide +kernel)
set_option maxRecDepth 20000 in
theorem gX3_remainder_X3_lineAt : GoodIn wsX3_remainder (wsV RX3 74 RX3 yX3_lineAt wsX3_lineAt) := goodIn_app (goodIn_of _ (by decide +kernel)) ggX3_remainder_X3_lineAt
set_option maxRecDepth 20000 in
theorem ggX3_remainder_X1_goodsOf : GoodIn wsX3_remainder wsX1_goodsOf := goodIn_r _ [13, 14, 15, 16, 17, 18] (by decide +kernel) (by decide +kernel)
set_option maxRecDepth 20000 in
theorem gX3_remainder_X1_goodsOf : GoodIn wsX3_remainder (wsV RX3 55 RX1 yX1_goodsOf wsX1_goodsOf) := goodIn_app (goodIn_of _ (by decide +kernel)) ggX3_remainder_X1_goodsOf
theorem dX3_remainder_0 : decode cX3_remainder 0 = .ok (.aload_n 0, 1) := by decide +kernel
theorem dX3_remainder_1 : decode cX3_remainder 1 = .ok (.iload_n 1, 1) := by decide +kernel
theorem dX3_remainder_2 : decode cX3_remainder 2 = .ok (.invokevirtual 74, 3) := by decide +kernel
theorem dX3_remainder_5 : decode cX3_remainder 5 = .ok (.astore 4, 2) := by decide +kernel
theorem dX3_remainder_7 : decode cX3_remainder 7 = .ok (.aload 4, 2) := by decide +kernel
theorem dX3_remainder_9 : decode cX3_remainder 9 = .ok (.ifnull 7, 3) := by decide +kernel
theorem dX3_remainder_12 : decode cX3_remainder 12 = .ok (.iload_n 3, 1) := by decide +kernel
theorem dX3_remainder_13 : decode cX3_remainder 13 = .ok (.ifCond .gt 7, 3) := by decide +kernel
theorem dX3_remainder_16 : decode cX3_remainder 16 = .ok (.ldc2_w 78, 3) := by decide +kernel
theorem dX3_remainder_19 : decode cX3_remainder 19 = .ok (.lreturn, 1) := by decide +kernel
theorem dX3_remainder_20 : decode cX3_remainder 20 = .ok (.iload_n 2, 1) := by decide +kernel
theorem dX3_remainder_21 : decode cX3_remainder 21 = .ok (.i2l, 1) := by decide +kernel
theorem dX3_remainder_22 : decode cX3_remainder 22 = .ok (.aload 4, 2) := by decide +kernel
theorem dX3_remainder_24 : decode cX3_remainder 24 = .ok (.aload 4, 2) := by decide +kernel
theorem dX3_remainder_26 : decode cX3_remainder 26 = .ok (.getfield 34, 3) := by decide +kernel
theorem dX3_remainder_29 : decode cX3_remainder 29 = .ok (.invokevirtual 55, 3) := by decide +kernel
theorem dX3_remainder_32 : decode cX3_remainder 32 = .ok (.i2l, 1) := by decide +kernel
theorem dX3_remainder_33 : decode cX3_remainder 33 = .ok (.lmul, 1) := by decide +kernel
theorem dX3_remainder_34 : decode cX3_remainder 34 = .ok (.iload_n 3, 1) := by decide +kernel
theorem dX3_remainder_35 : decode cX3_remainder 35 = .ok (.i2l, 1) := by decide +kernel
theorem dX3_remainder_36 : decode cX3_remainder 36 = .ok (.lrem, 1) := by decide +kernel
theorem dX3_remainder_37 : decode cX3_remainder 37 = .ok (.lreturn, 1) := by decide +kernel
set_option maxRecDepth 20000 in
theorem ggX3_linesAhead_X3_remainder : GoodIn wsX3_linesAhead wsX3_remainder := goodIn_r _ [6, 7, 8, 9, 10, 11, 5, 12, 1, 13, 14, 15, 16, 17, 18, 28, 29, 30, 31, 19, 20, 21, 22, 23, 24, 25, 26, 27] (by decide +kernel) (by decide +kernel)
set_option maxRecDepth 20000 in
theorem gX3_linesAhead_X3_remainder : GoodIn wsX3_linesAhead (wsV RX3 80 RX3 yX3_remainder wsX3_remainder) := goodIn_app (goodIn_of _ (by decide +kernel)) ggX3_linesAhead_X3_remainder
theorem dX3_linesAhead_0 : decode cX3_linesAhead 0 = .ok (.aload_n 0, 1) := by decide +kernel
theorem dX3_linesAhead_1 : decode cX3_linesAhead 1 = .ok (.iload_n 1, 1) := by decide +kernel
theorem dX3_linesAhead_2 : decode cX3_linesAhead 2 = .ok (.iload_n 2, 1) := by decide +kernel
theorem dX3_linesAhead_3 : decode cX3_linesAhead 3 = .ok (.iload_n 3, 1) := by decide +kernel
theorem dX3_linesAhead_4 : decode cX3_linesAhead 4 = .ok (.invokevirtual 80, 3) := by decide +kernel
theorem dX3_linesAhead_7 : decode cX3_linesAhead 7 = .ok (.lstore 4, 2) := by decide +kernel
theorem dX3_linesAhead_9 : decode cX3_linesAhead 9 = .ok (.iconst 0, 1) := by decide +kernel
theorem dX3_linesAhead_10 : decode cX3_linesAhead 10 = .ok (.istore 6, 2) := by decide +kernel
theorem dX3_linesAhead_12 : decode cX3_linesAhead 12 = .ok (.iconst 0, 1) := by decide +kernel
theorem dX3_linesAhead_13 : decode cX3_linesAhead 13 = .ok (.istore 7, 2) := by decide +kernel
theorem dX3_linesAhead_15 : decode cX3_linesAhead 15 = .ok (.iload 7, 2) := by decide +kernel
theorem dX3_linesAhead_17 : decode cX3_linesAhead 17 = .ok (.aload_n 0, 1) := by decide +kernel
theorem dX3_linesAhead_18 : decode cX3_linesAhead 18 = .ok (.getfield 11, 3) := by decide +kernel
theorem dX3_linesAhead_21 : decode cX3_linesAhead 21 = .ok (.arraylength, 1) := by decide +kernel
theorem dX3_linesAhead_22 : decode cX3_linesAhead 22 = .ok (.if_icmp .ge 44, 3) := by decide +kernel
theorem dX3_linesAhead_25 : decode cX3_linesAhead 25 = .ok (.aload_n 0, 1) := by decide +kernel
theorem dX3_linesAhead_26 : decode cX3_linesAhead 26 = .ok (.iload 7, 2) := by decide +kernel
theorem dX3_linesAhead_28 : decode cX3_linesAhead 28 = .ok (.iload_n 2, 1) := by decide +kernel
theorem dX3_linesAhead_29 : decode cX3_linesAhead 29 = .ok (.iload_n 3, 1) := by decide +kernel
theorem dX3_linesAhead_30 : decode cX3_linesAhead 30 = .ok (.invokevirtual 80, 3) := by decide +kernel
theorem dX3_linesAhead_33 : decode cX3_linesAhead 33 = .ok (.lstore 8, 2) := by decide +kernel
theorem dX3_linesAhead_35 : decode cX3_linesAhead 35 = .ok (.lload 8, 2) := by decide +kernel
theorem dX3_linesAhead_37 : decode cX3_linesAhead 37 = .ok (.lload 4, 2) := by decide +kernel
theorem dX3_linesAhead_39 : decode cX3_linesAhead 39 = .ok (.lcmp, 1) := by decide +kernel
theorem dX3_linesAhead_40 : decode cX3_linesAhead 40 = .ok (.ifCond .gt 17, 3) := by decide +kernel
theorem dX3_linesAhead_43 : decode cX3_linesAhead 43 = .ok (.lload 8, 2) := by decide +kernel
theorem dX3_linesAhead_45 : decode cX3_linesAhead 45 = .ok (.lload 4, 2) := by decide +kernel
theorem dX3_linesAhead_47 : decode cX3_linesAhead 47 = .ok (.lcmp, 1) := by decide +kernel
theorem dX3_linesAhead_48 : decode cX3_linesAhead 48 = .ok (.ifCond .ne 12, 3) := by decide +kernel
theorem dX3_linesAhead_51 : decode cX3_linesAhead 51 = .ok (.iload 7, 2) := by decide +kernel
theorem dX3_linesAhead_53 : decode cX3_linesAhead 53 = .ok (.iload_n 1, 1) := by decide +kernel
theorem dX3_linesAhead_54 : decode cX3_linesAhead 54 = .ok (.if_icmp .ge 6, 3) := by decide +kernel
theorem dX3_linesAhead_57 : decode cX3_linesAhead 57 = .ok (.iinc 6 1, 3) := by decide +kernel
theorem dX3_linesAhead_60 : decode cX3_linesAhead 60 = .ok (.iinc 7 1, 3) := by decide +kernel
theorem dX3_linesAhead_63 : decode cX3_linesAhead 63 = .ok (.goto (-48), 3) := by decide +kernel
theorem dX3_linesAhead_66 : decode cX3_linesAhead 66 = .ok (.iload 6, 2) := by decide +kernel
theorem dX3_linesAhead_68 : decode cX3_linesAhead 68 = .ok (.ireturn, 1) := by decide +kernel
set_option maxRecDepth 20000 in
theorem ggX4_init_X2_init : GoodIn wsX4_init wsX2_init := goodIn_r _ [15, 16, 2, 3, 17, 18, 19, 20, 21, 35, 36, 37, 38] (by decide +kernel) (by decide +kernel)
set_option maxRecDepth 20000 in
theorem gX4_init_X2_init_n15 : GoodIn wsX4_init (wsX2_init) := ggX4_init_X2_init
set_option maxRecDepth 20000 in
theorem ggX4_init_X0_init : GoodIn wsX4_init wsX0_init := goodIn_r _ [23, 24, 2, 3, 20, 25, 26, 27, 28, 39, 40, 41, 42] (by decide +kernel) (by decide +kernel)
set_option maxRecDepth 20000 in
theorem gX4_init_X0_init_n22 : GoodIn wsX4_init (wsX0_init) := ggX4_init_X0_init
theorem dX4_init_0 : decode cX4_init 0 = .ok (.aload_n 0, 1) := by decide +kernel
theorem dX4_init_1 : decode cX4_init 1 = .ok (.invokespecial 1, 3) := by decide +kernel
theorem dX4_init_4 : decode cX4_init 4 = .ok (.aload_n 0, 1) := by decide +kernel
theorem dX4_init_5 : decode cX4_init 5 = .ok (.bipush 10, 2) := by decide +kernel
theorem dX4_init_7 : decode cX4_init 7 = .ok (.anewarray 9, 3) := by decide +kernel
theorem dX4_init_10 : decode cX4_init 10 = .ok (.putfield 11, 3) := by decide +kernel
theorem dX4_init_13 : decode cX4_init 13 = .ok (.iconst 0, 1) := by decide +kernel
theorem dX4_init_14 : decode cX4_init 14 = .ok (.istore_n 1, 1) := by decide +kernel
theorem dX4_init_15 : decode cX4_init 15 = .ok (.iload_n 1, 1) := by decide +kernel
theorem dX4_init_16 : decode cX4_init 16 = .ok (.aload_n 0, 1) := by decide +kernel
theorem dX4_init_17 : decode cX4_init 17 = .ok (.getfield 11, 3) := by decide +kernel
theorem dX4_init_20 : decode cX4_init 20 = .ok (.arraylength, 1) := by decide +kernel
theorem dX4_init_21 : decode cX4_init 21 = .ok (.if_icmp .ge 22, 3) := by decide +kernel
theorem dX4_init_24 : decode cX4_init 24 = .ok (.aload_n 0, 1) := by decide +kernel
theorem dX4_init_25 : decode cX4_init 25 = .ok (.getfield 11, 3) := by decide +kernel
theorem dX4_init_28 : decode cX4_init 28 = .ok (.iload_n 1, 1) := by decide +kernel
theorem dX4_init_29 : decode cX4_init 29 = .ok (.new 9, 3) := by decide +kernel
theorem dX4_init_32 : decode cX4_init 32 = .ok (.dup, 1) := by decide +kernel
theorem dX4_init_33 : decode cX4_init 33 = .ok (.invokespecial 15, 3) := by decide +kernel
theorem dX4_init_36 : decode cX4_init 36 = .ok (.aastore, 1) := by decide +kernel
theorem dX4_init_37 : decode cX4_init 37 = .ok (.iinc 1 1, 3) := by decide +kernel
theorem dX4_init_40 : decode cX4_init 40 = .ok (.goto (-25), 3) := by decide +kernel
theorem dX4_init_43 : decode cX4_init 43 = .ok (.aload_n 0, 1) := by decide +kernel
theorem dX4_init_44 : decode cX4_init 44 = .ok (.bipush 10, 2) := by decide +kernel
theorem dX4_init_46 : decode cX4_init 46 = .ok (.anewarray 16, 3) := by decide +kernel
theorem dX4_init_49 : decode cX4_init 49 = .ok (.putfield 18, 3) := by decide +kernel
theorem dX4_init_52 : decode cX4_init 52 = .ok (.iconst 0, 1) := by decide +kernel
theorem dX4_init_53 : decode cX4_init 53 = .ok (.istore_n 1, 1) := by decide +kernel
theorem dX4_init_54 : decode cX4_init 54 = .ok (.iload_n 1, 1) := by decide +kernel
theorem dX4_init_55 : decode cX4_init 55 = .ok (.aload_n 0, 1) := by decide +kernel
theorem dX4_init_56 : decode cX4_init 56 = .ok (.getfield 18, 3) := by decide +kernel
theorem dX4_init_59 : decode cX4_init 59 = .ok (.arraylength, 1) := by decide +kernel
theorem dX4_init_60 : decode cX4_init 60 = .ok (.if_icmp .ge 22, 3) := by decide +kernel
theorem dX4_init_63 : decode cX4_init 63 = .ok (.aload_n 0, 1) := by decide +kernel
theorem dX4_init_64 : decode cX4_init 64 = .ok (.getfield 18, 3) := by decide +kernel
theorem dX4_init_67 : decode cX4_init 67 = .ok (.iload_n 1, 1) := by decide +kernel
theorem dX4_init_68 : decode cX4_init 68 = .ok (.new 16, 3) := by decide +kernel
theorem dX4_init_71 : decode cX4_init 71 = .ok (.dup, 1) := by decide +kernel
theorem dX4_init_72 : decode cX4_init 72 = .ok (.invokespecial 22, 3) := by decide +kernel
theorem dX4_init_75 : decode cX4_init 75 = .ok (.aastore, 1) := by decide +kernel
theorem dX4_init_76 : decode cX4_init 76 = .ok (.iinc 1 1, 3) := by decide +kernel
theorem dX4_init_79 : decode cX4_init 79 = .ok (.goto (-25), 3) := by decide +kernel
theorem dX4_init_82 : decode cX4_init 82 = .ok (.aload_n 0, 1) := by decide +kernel
theorem dX4_init_83 : decode cX4_init 83 = .ok (.bipush 40, 2) := by decide +kernel
theorem dX4_init_85 : decode cX4_init 85 = .ok (.anewarray 23, 3) := by decide +kernel
theorem dX4_init_88 : decode cX4_init 88 = .ok (.putfield 25, 3) := by decide +kernel
theorem dX4_init_91 : decode cX4_init 91 = .ok (.return_, 1) := by decide +kernel
set_option maxRecDepth 20000 in
theorem ggX4_setProduct_X4_productAt : GoodIn wsX4_setProduct wsX4_productAt := goodIn_r _ [11, 12, 20, 21, 22, 23, 24, 25] (by decide +kernel) (by decide +kernel)
set_option maxRecDepth 20000 in
theorem gX4_setProduct_X4_productAt : GoodIn wsX4_setProduct (wsV RX4 29 RX4 yX4_productAt wsX4_productAt) := goodIn_app (goodIn_of _ (by decide +kernel)) ggX4_setProduct_X4_productAt
set_option maxRecDepth 20000 in
theorem ggX4_setProduct_X4_isCost : GoodIn wsX4_setProduct wsX4_isCost := goodIn_r _ [15, 3] (by decide +kernel) (by decide +kernel)
set_option maxRecDepth 20000 in
theorem gX4_setProduct_X4_isCost : GoodIn wsX4_setProduct (va_wsS RX4 34 yX4_isCost wsX4_isCost) := goodIn_app (goodIn_of _ (by decide +kernel)) ggX4_setProduct_X4_isCost
theorem dX4_setProduct_0 : decode cX4_setProduct 0 = .ok (.aload_n 0, 1) := by decide +kernel
theorem dX4_setProduct_1 : decode cX4_setProduct 1 = .ok (.iload_n 1, 1) := by decide +kernel
theorem dX4_setProduct_2 : decode cX4_setProduct 2 = .ok (.invokevirtual 29, 3) := by decide +kernel
theorem dX4_setProduct_5 : decode cX4_setProduct 5 = .ok (.astore 5, 2) := by decide +kernel
theorem dX4_setProduct_7 : decode cX4_setProduct 7 = .ok (.aload 5, 2) := by decide +kernel
theorem dX4_setProduct_9 : decode cX4_setProduct 9 = .ok (.ifnull 29, 3) := by decide +kernel
theorem dX4_setProduct_12 : decode cX4_setProduct 12 = .ok (.iload_n 2, 1) := by decide +kernel
theorem dX4_setProduct_13 : decode cX4_setProduct 13 = .ok (.iconst 1, 1) := by decide +kernel
theorem dX4_setProduct_14 : decode cX4_setProduct 14 = .ok (.if_icmp .lt 24, 3) := by decide +kernel
theorem dX4_setProduct_17 : decode cX4_setProduct 17 = .ok (.iload_n 2, 1) := by decide +kernel
theorem dX4_setProduct_18 : decode cX4_setProduct 18 = .ok (.ldc 33, 2) := by decide +kernel
theorem dX4_setProduct_20 : decode cX4_setProduct 20 = .ok (.if_icmp .gt 18, 3) := by decide +kernel
theorem dX4_setProduct_23 : decode cX4_setProduct 23 = .ok (.iload_n 3, 1) := by decide +kernel
theorem dX4_setProduct_24 : decode cX4_setProduct 24 = .ok (.invokestatic 34, 3) := by decide +kernel
theorem dX4_setProduct_27 : decode cX4_setProduct 27 = .ok (.ifCond .eq 11, 3) := by decide +kernel
theorem dX4_setProduct_30 : decode cX4_setProduct 30 = .ok (.iload 4, 2) := by decide +kernel
theorem dX4_setProduct_32 : decode cX4_setProduct 32 = .ok (.invokestatic 34, 3) := by decide +kernel
theorem dX4_setProduct_35 : decode cX4_setProduct 35 = .ok (.ifCond .ne 13, 3) := by decide +kernel
theorem dX4_setProduct_38 : decode cX4_setProduct 38 = .ok (.new 38, 3) := by decide +kernel
theorem dX4_setProduct_41 : decode cX4_setProduct 41 = .ok (.dup, 1) := by decide +kernel
theorem dX4_setProduct_42 : decode cX4_setProduct 42 = .ok (.ldc 40, 2) := by decide +kernel
theorem dX4_setProduct_44 : decode cX4_setProduct 44 = .ok (.invokespecial 42, 3) := by decide +kernel
theorem dX4_setProduct_47 : decode cX4_setProduct 47 = .ok (.athrow, 1) := by decide +kernel
theorem dX4_setProduct_48 : decode cX4_setProduct 48 = .ok (.aload 5, 2) := by decide +kernel
theorem dX4_setProduct_50 : decode cX4_setProduct 50 = .ok (.getfield 45, 3) := by decide +kernel
theorem dX4_setProduct_53 : decode cX4_setProduct 53 = .ok (.istore 6, 2) := by decide +kernel
theorem dX4_setProduct_55 : decode cX4_setProduct 55 = .ok (.aload 5, 2) := by decide +kernel
theorem dX4_setProduct_57 : decode cX4_setProduct 57 = .ok (.iload_n 2, 1) := by decide +kernel
theorem dX4_setProduct_58 : decode cX4_setProduct 58 = .ok (.putfield 45, 3) := by decide +kernel
theorem dX4_setProduct_61 : decode cX4_setProduct 61 = .ok (.aload 5, 2) := by decide +kernel
theorem dX4_setProduct_63 : decode cX4_setProduct 63 = .ok (.iload_n 3, 1) := by decide +kernel
theorem dX4_setProduct_64 : decode cX4_setProduct 64 = .ok (.putfield 49, 3) := by decide +kernel
theorem dX4_setProduct_67 : decode cX4_setProduct 67 = .ok (.aload 5, 2) := by decide +kernel
theorem dX4_setProduct_69 : decode cX4_setProduct 69 = .ok (.iload 4, 2) := by decide +kernel
theorem dX4_setProduct_71 : decode cX4_setProduct 71 = .ok (.putfield 52, 3) := by decide +kernel
theorem dX4_setProduct_74 : decode cX4_setProduct 74 = .ok (.iload 6, 2) := by decide +kernel
theorem dX4_setProduct_76 : decode cX4_setProduct 76 = .ok (.ireturn, 1) := by decide +kernel
theorem dX4_pass_0 : decode cX4_pass 0 = .ok (.iload_n 1, 1) := by decide +kernel
theorem dX4_pass_1 : decode cX4_pass 1 = .ok (.iconst 1, 1) := by decide +kernel
theorem dX4_pass_2 : decode cX4_pass 2 = .ok (.if_icmp .lt 10, 3) := by decide +kernel
theorem dX4_pass_5 : decode cX4_pass 5 = .ok (.iload_n 1, 1) := by decide +kernel
theorem dX4_pass_6 : decode cX4_pass 6 = .ok (.sipush 365, 3) := by decide +kernel
theorem dX4_pass_9 : decode cX4_pass 9 = .ok (.if_icmp .le 13, 3) := by decide +kernel
theorem dX4_pass_12 : decode cX4_pass 12 = .ok (.new 38, 3) := by decide +kernel
theorem dX4_pass_15 : decode cX4_pass 15 = .ok (.dup, 1) := by decide +kernel
theorem dX4_pass_16 : decode cX4_pass 16 = .ok (.ldc 55, 2) := by decide +kernel
theorem dX4_pass_18 : decode cX4_pass 18 = .ok (.invokespecial 42, 3) := by decide +kernel
theorem dX4_pass_21 : decode cX4_pass 21 = .ok (.athrow, 1) := by decide +kernel
theorem dX4_pass_22 : decode cX4_pass 22 = .ok (.aload_n 0, 1) := by decide +kernel
theorem dX4_pass_23 : decode cX4_pass 23 = .ok (.getfield 57, 3) := by decide +kernel
theorem dX4_pass_26 : decode cX4_pass 26 = .ok (.iload_n 1, 1) := by decide +kernel
theorem dX4_pass_27 : decode cX4_pass 27 = .ok (.iadd, 1) := by decide +kernel
theorem dX4_pass_28 : decode cX4_pass 28 = .ok (.ldc 33, 2) := by decide +kernel
theorem dX4_pass_30 : decode cX4_pass 30 = .ok (.if_icmp .le 13, 3) := by decide +kernel
theorem dX4_pass_33 : decode cX4_pass 33 = .ok (.new 60, 3) := by decide +kernel
theorem dX4_pass_36 : decode cX4_pass 36 = .ok (.dup, 1) := by decide +kernel
theorem dX4_pass_37 : decode cX4_pass 37 = .ok (.ldc 62, 2) := by decide +kernel
theorem dX4_pass_39 : decode cX4_pass 39 = .ok (.invokespecial 64, 3) := by decide +kernel
theorem dX4_pass_42 : decode cX4_pass 42 = .ok (.athrow, 1) := by decide +kernel
theorem dX4_pass_43 : decode cX4_pass 43 = .ok (.aload_n 0, 1) := by decide +kernel
theorem dX4_pass_44 : decode cX4_pass 44 = .ok (.dup, 1) := by decide +kernel
theorem dX4_pass_45 : decode cX4_pass 45 = .ok (.getfield 57, 3) := by decide +kernel
theorem dX4_pass_48 : decode cX4_pass 48 = .ok (.iload_n 1, 1) := by decide +kernel
theorem dX4_pass_49 : decode cX4_pass 49 = .ok (.iadd, 1) := by decide +kernel
theorem dX4_pass_50 : decode cX4_pass 50 = .ok (.putfield 57, 3) := by decide +kernel
theorem dX4_pass_53 : decode cX4_pass 53 = .ok (.aload_n 0, 1) := by decide +kernel
theorem dX4_pass_54 : decode cX4_pass 54 = .ok (.getfield 57, 3) := by decide +kernel
theorem dX4_pass_57 : decode cX4_pass 57 = .ok (.ireturn, 1) := by decide +kernel
set_option maxRecDepth 20000 in
theorem ggX4_open_X4_customerAt : GoodIn wsX4_open wsX4_customerAt := goodIn_r _ [13, 14, 44, 45, 46, 47, 48, 49] (by decide +kernel) (by decide +kernel)
set_option maxRecDepth 20000 in
theorem gX4_open_X4_customerAt : GoodIn wsX4_open (wsV RX4 65 RX4 yX4_customerAt wsX4_customerAt) := goodIn_app (goodIn_of _ (by decide +kernel)) ggX4_open_X4_customerAt
set_option maxRecDepth 20000 in
theorem ggX4_open_X4_isRegisterFull : GoodIn wsX4_open wsX4_isRegisterFull := goodIn_r _ [18, 8, 19, 44, 45, 46, 47, 48, 49] (by decide +kernel) (by decide +kernel)
set_option maxRecDepth 20000 in
theorem gX4_open_X4_isRegisterFull : GoodIn wsX4_open (wsV RX4 71 RX4 yX4_isRegisterFull wsX4_isRegisterFull) := goodIn_app (goodIn_of _ (by decide +kernel)) ggX4_open_X4_isRegisterFull
set_option maxRecDepth 20000 in
theorem ggX4_open_X3_init : GoodIn wsX4_open wsX3_init := goodIn_r _ [22, 23, 24, 25, 26, 27, 28, 29, 30, 35, 36, 37, 38, 39, 40, 41, 42, 43] (by decide +kernel) (by decide +kernel)
set_option maxRecDepth 20000 in
theorem gX4_open_X3_init : GoodIn wsX4_open (wsX3_init) := ggX4_open_X3_init
set_option maxRecDepth 20000 in
theorem ggX4_open_X4_enter : GoodIn wsX4_open wsX4_enter := goodIn_r _ [34, 8, 19, 44, 45, 46, 47, 48, 49] (by decide +kernel) (by decide +kernel)
set_option maxRecDepth 20000 in
theorem gX4_open_X4_enter : GoodIn wsX4_open (wsV RX4 83 RX4 yX4_enter wsX4_enter) := goodIn_app (goodIn_of _ (by decide +kernel)) ggX4_open_X4_enter
theorem dX4_open_0 : decode cX4_open 0 = .ok (.aload_n 0, 1) := by decide +kernel
theorem dX4_open_1 : decode cX4_open 1 = .ok (.iload_n 1, 1) := by decide +kernel
theorem dX4_open_2 : decode cX4_open 2 = .ok (.invokevirtual 65, 3) := by decide +kernel
theorem dX4_open_5 : decode cX4_open 5 = .ok (.astore_n 2, 1) := by decide +kernel
theorem dX4_open_6 : decode cX4_open 6 = .ok (.aload_n 2, 1) := by decide +kernel
theorem dX4_open_7 : decode cX4_open 7 = .ok (.ifnonnull 13, 3) := by decide +kernel
theorem dX4_open_10 : decode cX4_open 10 = .ok (.new 38, 3) := by decide +kernel
theorem dX4_open_13 : decode cX4_open 13 = .ok (.dup, 1) := by decide +kernel
theorem dX4_open_14 : decode cX4_open 14 = .ok (.ldc 69, 2) := by decide +kernel
theorem dX4_open_16 : decode cX4_open 16 = .ok (.invokespecial 42, 3) := by decide +kernel
theorem dX4_open_19 : decode cX4_open 19 = .ok (.athrow, 1) := by decide +kernel
theorem dX4_open_20 : decode cX4_open 20 = .ok (.aload_n 0, 1) := by decide +kernel
theorem dX4_open_21 : decode cX4_open 21 = .ok (.invokevirtual 71, 3) := by decide +kernel
theorem dX4_open_24 : decode cX4_open 24 = .ok (.ifCond .eq 13, 3) := by decide +kernel
theorem dX4_open_27 : decode cX4_open 27 = .ok (.new 60, 3) := by decide +kernel
theorem dX4_open_30 : decode cX4_open 30 = .ok (.dup, 1) := by decide +kernel
theorem dX4_open_31 : decode cX4_open 31 = .ok (.ldc 75, 2) := by decide +kernel
theorem dX4_open_33 : decode cX4_open 33 = .ok (.invokespecial 64, 3) := by decide +kernel
theorem dX4_open_36 : decode cX4_open 36 = .ok (.athrow, 1) := by decide +kernel
theorem dX4_open_37 : decode cX4_open 37 = .ok (.aload_n 0, 1) := by decide +kernel
theorem dX4_open_38 : decode cX4_open 38 = .ok (.new 23, 3) := by decide +kernel
theorem dX4_open_41 : decode cX4_open 41 = .ok (.dup, 1) := by decide +kernel
theorem dX4_open_42 : decode cX4_open 42 = .ok (.aload_n 2, 1) := by decide +kernel
theorem dX4_open_43 : decode cX4_open 43 = .ok (.aload_n 0, 1) := by decide +kernel
theorem dX4_open_44 : decode cX4_open 44 = .ok (.getfield 77, 3) := by decide +kernel
theorem dX4_open_47 : decode cX4_open 47 = .ok (.iconst 0, 1) := by decide +kernel
theorem dX4_open_48 : decode cX4_open 48 = .ok (.invokespecial 80, 3) := by decide +kernel
theorem dX4_open_51 : decode cX4_open 51 = .ok (.invokevirtual 83, 3) := by decide +kernel
theorem dX4_open_54 : decode cX4_open 54 = .ok (.ireturn, 1) := by decide +kernel
set_option maxRecDepth 20000 in
theorem ggX4_add_X4_existingSale : GoodIn wsX4_add wsX4_existingSale := goodIn_ca (goodIn_r _ [14, 15, 16, 17, 18, 19, 13, 20, 21, 60, 61, 62, 63, 64, 65] (by decide +kernel) (by decide +kernel)) (goodIn_sub (fun _ h => List.mem_cons_of_mem _ (List.mem_append_right _ h)) (by decide +kernel))
set_option maxRecDepth 20000 in
theorem gX4_add_X4_existingSale : GoodIn wsX4_add (wsV RX4 87 RX4 yX4_existingSale wsX4_existingSale) := goodIn_app (goodIn_of _ (by decide +kernel)) ggX4_add_X4_existingSale
set_option maxRecDepth 20000 in
theorem ggX4_add_X4_productAt : GoodIn wsX4_add wsX4_productAt := goodIn_r _ [25, 26, 60, 61, 62, 63, 64, 65] (by decide +kernel) (by decide +kernel)
set_option maxRecDepth 20000 in
theorem gX4_add_X4_productAt : GoodIn wsX4_add (wsV RX4 29 RX4 yX4_productAt wsX4_productAt) := goodIn_app (goodIn_of _ (by decide +kernel)) ggX4_add_X4_productAt
set_option maxRecDepth 20000 in
theorem ggX4_add_X4_isUnits : GoodIn wsX4_add wsX4_isUnits := goodIn_r _ [29] (by decide +kernel) (by decide +kernel)
set_option maxRecDepth 20000 in
theorem gX4_add_X4_isUnits : GoodIn wsX4_add (va_wsS RX4 91 yX4_isUnits wsX4_isUnits) := goodIn_app (goodIn_of _ (by decide +kernel)) ggX4_add_X4_isUnits
set_option maxRecDepth 20000 in
theorem ggX4_add_X1_init : GoodIn wsX4_add wsX1_init := goodIn_r _ [32, 33, 34, 35, 36, 37, 38, 39, 56, 57, 58, 59, 66, 67, 68, 69] (by decide +kernel) (by decide +kernel)
set_option maxRecDepth 20000 in
theorem gX4_add_X1_init : GoodIn wsX4_add (wsX1_init) := ggX4_add_X1_init
set_option maxRecDepth 20000 in
theorem ggX4_add_X3_append : GoodIn wsX4_add wsX3_append := goodIn_r _ [44, 45, 46, 47, 48, 49, 50, 51, 52, 53, 54, 55] (by decide +kernel) (by decide +kernel)
set_option maxRecDepth 20000 in
theorem gX4_add_X3_append : GoodIn wsX4_add (wsV RX4 110 RX3 yX3_append wsX3_append) := goodIn_app (goodIn_of _ (by decide +kernel)) ggX4_add_X3_append
theorem dX4_add_0 : decode cX4_add 0 = .ok (.aload_n 0, 1) := by decide +kernel
theorem dX4_add_1 : decode cX4_add 1 = .ok (.iload_n 1, 1) := by decide +kernel
theorem dX4_add_2 : decode cX4_add 2 = .ok (.invokevirtual 87, 3) := by decide +kernel
theorem dX4_add_5 : decode cX4_add 5 = .ok (.astore 4, 2) := by decide +kernel
theorem dX4_add_7 : decode cX4_add 7 = .ok (.aload_n 0, 1) := by decide +kernel
theorem dX4_add_8 : decode cX4_add 8 = .ok (.iload_n 2, 1) := by decide +kernel
theorem dX4_add_9 : decode cX4_add 9 = .ok (.invokevirtual 29, 3) := by decide +kernel
theorem dX4_add_12 : decode cX4_add 12 = .ok (.astore 5, 2) := by decide +kernel
theorem dX4_add_14 : decode cX4_add 14 = .ok (.aload 5, 2) := by decide +kernel
theorem dX4_add_16 : decode cX4_add 16 = .ok (.ifnull 10, 3) := by decide +kernel
theorem dX4_add_19 : decode cX4_add 19 = .ok (.iload_n 3, 1) := by decide +kernel
theorem dX4_add_20 : decode cX4_add 20 = .ok (.invokestatic 91, 3) := by decide +kernel
theorem dX4_add_23 : decode cX4_add 23 = .ok (.ifCond .ne 13, 3) := by decide +kernel
theorem dX4_add_26 : decode cX4_add 26 = .ok (.new 38, 3) := by decide +kernel
theorem dX4_add_29 : decode cX4_add 29 = .ok (.dup, 1) := by decide +kernel
theorem dX4_add_30 : decode cX4_add 30 = .ok (.ldc 94, 2) := by decide +kernel
theorem dX4_add_32 : decode cX4_add 32 = .ok (.invokespecial 42, 3) := by decide +kernel
theorem dX4_add_35 : decode cX4_add 35 = .ok (.athrow, 1) := by decide +kernel
theorem dX4_add_36 : decode cX4_add 36 = .ok (.aload 4, 2) := by decide +kernel
theorem dX4_add_38 : decode cX4_add 38 = .ok (.getfield 96, 3) := by decide +kernel
theorem dX4_add_41 : decode cX4_add 41 = .ok (.ifCond .ne 13, 3) := by decide +kernel
theorem dX4_add_44 : decode cX4_add 44 = .ok (.aload 4, 2) := by decide +kernel
theorem dX4_add_46 : decode cX4_add 46 = .ok (.getfield 100, 3) := by decide +kernel
theorem dX4_add_49 : decode cX4_add 49 = .ok (.bipush 6, 2) := by decide +kernel
theorem dX4_add_51 : decode cX4_add 51 = .ok (.if_icmp .lt 13, 3) := by decide +kernel
theorem dX4_add_54 : decode cX4_add 54 = .ok (.new 60, 3) := by decide +kernel
theorem dX4_add_57 : decode cX4_add 57 = .ok (.dup, 1) := by decide +kernel
theorem dX4_add_58 : decode cX4_add 58 = .ok (.ldc 103, 2) := by decide +kernel
theorem dX4_add_60 : decode cX4_add 60 = .ok (.invokespecial 64, 3) := by decide +kernel
theorem dX4_add_63 : decode cX4_add 63 = .ok (.athrow, 1) := by decide +kernel
theorem dX4_add_64 : decode cX4_add 64 = .ok (.aload 4, 2) := by decide +kernel
theorem dX4_add_66 : decode cX4_add 66 = .ok (.new 105, 3) := by decide +kernel
theorem dX4_add_69 : decode cX4_add 69 = .ok (.dup, 1) := by decide +kernel
theorem dX4_add_70 : decode cX4_add 70 = .ok (.aload 5, 2) := by decide +kernel
theorem dX4_add_72 : decode cX4_add 72 = .ok (.iload_n 3, 1) := by decide +kernel
theorem dX4_add_73 : decode cX4_add 73 = .ok (.invokespecial 107, 3) := by decide +kernel
theorem dX4_add_76 : decode cX4_add 76 = .ok (.invokevirtual 110, 3) := by decide +kernel
theorem dX4_add_79 : decode cX4_add 79 = .ok (.ireturn, 1) := by decide +kernel
set_option maxRecDepth 20000 in
theorem ggX4_pay_X4_existingSale : GoodIn wsX4_pay wsX4_existingSale := goodIn_ca (goodIn_r _ [11, 12, 13, 14, 15, 16, 10, 17, 18, 54, 55, 56, 57, 58, 59] (by decide +kernel) (by decide +kernel)) (goodIn_sub (fun _ h => List.mem_cons_of_mem _ (List.mem_append_right _ h)) (by decide +kernel))
set_option maxRecDepth 20000 in
theorem gX4_pay_X4_existingSale : GoodIn wsX4_pay (wsV RX4 87 RX4 yX4_existingSale wsX4_existingSale) := goodIn_app (goodIn_of _ (by decide +kernel)) ggX4_pay_X4_existingSale
set_option maxRecDepth 20000 in
theorem ggX4_pay_X3_settle : GoodIn wsX4_pay wsX3_settle := goodIn_r _ [23, 24, 25, 26, 27, 28, 29, 30, 31, 32, 22, 33, 34, 35, 36, 37, 38, 39, 40, 10, 41, 42, 43, 44, 45, 46, 47, 48, 49, 50, 51, 52, 53, 60, 61, 62, 63] (by decide +kernel) (by decide +kernel)
set_option maxRecDepth 20000 in
theorem gX4_pay_X3_settle : GoodIn wsX4_pay (wsV RX4 116 RX3 yX3_settle wsX3_settle) := goodIn_app (goodIn_of _ (by decide +kernel)) ggX4_pay_X3_settle
theorem dX4_pay_0 : decode cX4_pay 0 = .ok (.aload_n 0, 1) := by decide +kernel
theorem dX4_pay_1 : decode cX4_pay 1 = .ok (.iload_n 1, 1) := by decide +kernel
theorem dX4_pay_2 : decode cX4_pay 2 = .ok (.invokevirtual 87, 3) := by decide +kernel
theorem dX4_pay_5 : decode cX4_pay 5 = .ok (.astore_n 2, 1) := by decide +kernel
theorem dX4_pay_6 : decode cX4_pay 6 = .ok (.aload_n 2, 1) := by decide +kernel
theorem dX4_pay_7 : decode cX4_pay 7 = .ok (.getfield 96, 3) := by decide +kernel
theorem dX4_pay_10 : decode cX4_pay 10 = .ok (.ifCond .ne 10, 3) := by decide +kernel
theorem dX4_pay_13 : decode cX4_pay 13 = .ok (.aload_n 2, 1) := by decide +kernel
theorem dX4_pay_14 : decode cX4_pay 14 = .ok (.getfield 100, 3) := by decide +kernel
theorem dX4_pay_17 : decode cX4_pay 17 = .ok (.ifCond .ne 13, 3) := by decide +kernel
theorem dX4_pay_20 : decode cX4_pay 20 = .ok (.new 60, 3) := by decide +kernel
theorem dX4_pay_23 : decode cX4_pay 23 = .ok (.dup, 1) := by decide +kernel
theorem dX4_pay_24 : decode cX4_pay 24 = .ok (.ldc 114, 2) := by decide +kernel
theorem dX4_pay_26 : decode cX4_pay 26 = .ok (.invokespecial 64, 3) := by decide +kernel
theorem dX4_pay_29 : decode cX4_pay 29 = .ok (.athrow, 1) := by decide +kernel
theorem dX4_pay_30 : decode cX4_pay 30 = .ok (.aload_n 2, 1) := by decide +kernel
theorem dX4_pay_31 : decode cX4_pay 31 = .ok (.aload_n 0, 1) := by decide +kernel
theorem dX4_pay_32 : decode cX4_pay 32 = .ok (.getfield 57, 3) := by decide +kernel
theorem dX4_pay_35 : decode cX4_pay 35 = .ok (.invokevirtual 116, 3) := by decide +kernel
theorem dX4_pay_38 : decode cX4_pay 38 = .ok (.aload_n 2, 1) := by decide +kernel
theorem dX4_pay_39 : decode cX4_pay 39 = .ok (.getfield 120, 3) := by decide +kernel
theorem dX4_pay_42 : decode cX4_pay 42 = .ok (.ireturn, 1) := by decide +kernel
theorem dX4_sales_0 : decode cX4_sales 0 = .ok (.aload_n 0, 1) := by decide +kernel
theorem dX4_sales_1 : decode cX4_sales 1 = .ok (.getfield 77, 3) := by decide +kernel
theorem dX4_sales_4 : decode cX4_sales 4 = .ok (.ireturn, 1) := by decide +kernel
set_option maxRecDepth 20000 in
theorem ggX4_paid_X4_existingSale : GoodIn wsX4_paid wsX4_existingSale := goodIn_ca (goodIn_r _ [6, 7, 8, 9, 10, 11, 5, 12, 13, 23, 24, 25, 26, 27, 28] (by decide +kernel) (by decide +kernel)) (goodIn_sub (fun _ h => List.mem_cons_of_mem _ (List.mem_append_right _ h)) (by decide +kernel))
set_option maxRecDepth 20000 in
theorem gX4_paid_X4_existingSale : GoodIn wsX4_paid (wsV RX4 87 RX4 yX4_existingSale wsX4_existingSale) := goodIn_app (goodIn_of _ (by decide +kernel)) ggX4_paid_X4_existingSale
theorem dX4_paid_0 : decode cX4_paid 0 = .ok (.aload_n 0, 1) := by decide +kernel
theorem dX4_paid_1 : decode cX4_paid 1 = .ok (.iload_n 1, 1) := by decide +kernel
theorem dX4_paid_2 : decode cX4_paid 2 = .ok (.invokevirtual 87, 3) := by decide +kernel
theorem dX4_paid_5 : decode cX4_paid 5 = .ok (.getfield 120, 3) := by decide +kernel
theorem dX4_paid_8 : decode cX4_paid 8 = .ok (.ireturn, 1) := by decide +kernel
set_option maxRecDepth 20000 in
theorem ggX4_kept_X4_existingLine : GoodIn wsX4_kept wsX4_existingLine := goodIn_ca (goodIn_r _ [6, 7, 8, 9, 10, 11, 5, 12, 13, 14, 15, 16, 17, 18, 19, 20, 21, 22, 23, 28, 29, 30, 31, 32, 33, 34, 35, 36, 37, 38, 39, 40, 41, 42] (by decide +kernel) (by decide +kernel)) (goodIn_sub (fun _ h => List.mem_cons_of_mem _ (List.mem_append_right _ h)) (by decide +kernel))
set_option maxRecDepth 20000 in
theorem gX4_kept_X4_existingLine : GoodIn wsX4_kept (wsV RX4 123 RX4 yX4_existingLine wsX4_existingLine) := goodIn_app (goodIn_of _ (by decide +kernel)) ggX4_kept_X4_existingLine
theorem dX4_kept_0 : decode cX4_kept 0 = .ok (.aload_n 0, 1) := by decide +kernel
theorem dX4_kept_1 : decode cX4_kept 1 = .ok (.iload_n 1, 1) := by decide +kernel
theorem dX4_kept_2 : decode cX4_kept 2 = .ok (.iload_n 2, 1) := by decide +kernel
theorem dX4_kept_3 : decode cX4_kept 3 = .ok (.invokevirtual 123, 3) := by decide +kernel
theorem dX4_kept_6 : decode cX4_kept 6 = .ok (.getfield 127, 3) := by decide +kernel
theorem dX4_kept_9 : decode cX4_kept 9 = .ok (.ireturn, 1) := by decide +kernel
set_option maxRecDepth 20000 in
theorem ggX4_keptValue_X4_existingSale : GoodIn wsX4_keptValue wsX4_existingSale := goodIn_ca (goodIn_r _ [5, 6, 7, 8, 9, 10, 4, 11, 12, 32, 33, 34, 35, 36, 37] (by decide +kernel) (by decide +kernel)) (goodIn_sub (fun _ h => List.mem_cons_of_mem _ (List.mem_append_right _ h)) (by decide +kernel))
set_option maxRecDepth 20000 in
theorem gX4_keptValue_X4_existingSale : GoodIn wsX4_keptValue (wsV RX4 87 RX4 yX4_existingSale wsX4_existingSale) := goodIn_app (goodIn_of _ (by decide +kernel)) ggX4_keptValue_X4_existingSale
set_option maxRecDepth 20000 in
theorem ggX4_keptValue_X3_keptGoods : GoodIn wsX4_keptValue wsX3_keptGoods := goodIn_r _ [17, 18, 19, 20, 21, 22, 23, 24, 25, 38, 39, 40, 41, 42, 43, 44, 45, 46, 47, 48, 49, 50] (by decide +kernel) (by decide +kernel)
set_option maxRecDepth 20000 in
theorem gX4_keptValue_X3_keptGoods : GoodIn wsX4_keptValue (wsV RX4 130 RX3 yX3_keptGoods wsX3_keptGoods) := goodIn_app (goodIn_of _ (by decide +kernel)) ggX4_keptValue_X3_keptGoods
set_option maxRecDepth 20000 in
theorem ggX4_keptValue_X4_netOf : GoodIn wsX4_keptValue wsX4_netOf := goodIn_r _ [28, 29, 30, 4, 31] (by decide +kernel) (by decide +kernel)
set_option maxRecDepth 20000 in
theorem gX4_keptValue_X4_netOf : GoodIn wsX4_keptValue (va_wsS RX4 134 yX4_netOf wsX4_netOf) := goodIn_app (goodIn_of _ (by decide +kernel)) ggX4_keptValue_X4_netOf
theorem dX4_keptValue_0 : decode cX4_keptValue 0 = .ok (.aload_n 0, 1) := by decide +kernel
theorem dX4_keptValue_1 : decode cX4_keptValue 1 = .ok (.iload_n 1, 1) := by decide +kernel
theorem dX4_keptValue_2 : decode cX4_keptValue 2 = .ok (.invokevirtual 87, 3) := by decide +kernel
theorem dX4_keptValue_5 : decode cX4_keptValue 5 = .ok (.invokevirtual 130, 3) := by decide +kernel
theorem dX4_keptValue_8 : decode cX4_keptValue 8 = .ok (.invokestatic 134, 3) := by decide +kernel
theorem dX4_keptValue_11 : decode cX4_keptValue 11 = .ok (.ireturn, 1) := by decide +kernel
set_option maxRecDepth 20000 in
theorem ggX4_lineValue_X4_existingSale : GoodIn wsX4_lineValue wsX4_existingSale := goodIn_ca (goodIn_r _ [7, 1, 2, 8, 9, 10, 6, 11, 12, 53, 54, 55, 56, 57, 58] (by decide +kernel) (by decide +kernel)) (goodIn_sub (fun _ h => List.mem_cons_of_mem _ (List.mem_append_right _ h)) (by decide +kernel))
set_option maxRecDepth 20000 in
theorem gX4_lineValue_X4_existingSale : GoodIn wsX4_lineValue (wsV RX4 87 RX4 yX4_existingSale wsX4_existingSale) := goodIn_app (goodIn_of _ (by decide +kernel)) ggX4_lineValue_X4_existingSale
set_option maxRecDepth 20000 in
theorem ggX4_lineValue_X3_lineAt : GoodIn wsX4_lineValue wsX3_lineAt := goodIn_r _ [17, 18, 59, 60, 61, 62, 63, 64, 65, 66, 67] (by decide +kernel) (by decide +kernel)
set_option maxRecDepth 20000 in
theorem gX4_lineValue_X3_lineAt : GoodIn wsX4_lineValue (wsV RX4 138 RX3 yX3_lineAt wsX3_lineAt) := goodIn_app (goodIn_of _ (by decide +kernel)) ggX4_lineValue_X3_lineAt
set_option maxRecDepth 20000 in
theorem ggX4_lineValue_X3_shareOf : GoodIn wsX4_lineValue wsX3_shareOf := goodIn_r _ [22, 18, 23, 24, 25, 16, 26, 27, 28, 29, 30, 31, 32, 33, 34, 6, 35, 36, 37, 38, 39, 40, 41, 42, 43, 14, 15, 17, 44, 45, 46, 47, 48, 49, 50, 51, 52, 59, 60, 61, 62, 63, 64, 65, 66, 67, 68, 69, 70, 71] (by decide +kernel) (by decide +kernel)
set_option maxRecDepth 20000 in
theorem gX4_lineValue_X3_shareOf : GoodIn wsX4_lineValue (wsV RX4 147 RX3 yX3_shareOf wsX3_shareOf) := goodIn_app (goodIn_of _ (by decide +kernel)) ggX4_lineValue_X3_shareOf
theorem dX4_lineValue_0 : decode cX4_lineValue 0 = .ok (.aload_n 0, 1) := by decide +kernel
theorem dX4_lineValue_1 : decode cX4_lineValue 1 = .ok (.iload_n 1, 1) := by decide +kernel
theorem dX4_lineValue_2 : decode cX4_lineValue 2 = .ok (.invokevirtual 87, 3) := by decide +kernel
theorem dX4_lineValue_5 : decode cX4_lineValue 5 = .ok (.astore_n 3, 1) := by decide +kernel
theorem dX4_lineValue_6 : decode cX4_lineValue 6 = .ok (.aload_n 3, 1) := by decide +kernel
theorem dX4_lineValue_7 : decode cX4_lineValue 7 = .ok (.iload_n 2, 1) := by decide +kernel
theorem dX4_lineValue_8 : decode cX4_lineValue 8 = .ok (.invokevirtual 138, 3) := by decide +kernel
theorem dX4_lineValue_11 : decode cX4_lineValue 11 = .ok (.ifnonnull 13, 3) := by decide +kernel
theorem dX4_lineValue_14 : decode cX4_lineValue 14 = .ok (.new 142, 3) := by decide +kernel
theorem dX4_lineValue_17 : decode cX4_lineValue 17 = .ok (.dup, 1) := by decide +kernel
theorem dX4_lineValue_18 : decode cX4_lineValue 18 = .ok (.ldc 144, 2) := by decide +kernel
theorem dX4_lineValue_20 : decode cX4_lineValue 20 = .ok (.invokespecial 146, 3) := by decide +kernel
theorem dX4_lineValue_23 : decode cX4_lineValue 23 = .ok (.athrow, 1) := by decide +kernel
theorem dX4_lineValue_24 : decode cX4_lineValue 24 = .ok (.aload_n 3, 1) := by decide +kernel
theorem dX4_lineValue_25 : decode cX4_lineValue 25 = .ok (.iload_n 2, 1) := by decide +kernel
theorem dX4_lineValue_26 : decode cX4_lineValue 26 = .ok (.invokevirtual 147, 3) := by decide +kernel
theorem dX4_lineValue_29 : decode cX4_lineValue 29 = .ok (.ireturn, 1) := by decide +kernel
set_option maxRecDepth 20000 in
theorem ggX4_giveBack_X4_existingLine : GoodIn wsX4_giveBack wsX4_existingLine := goodIn_ca (goodIn_r _ [11, 12, 13, 14, 15, 16, 10, 17, 18, 19, 20, 21, 22, 23, 24, 25, 26, 27, 28, 145, 146, 147, 148, 149, 150, 136, 137, 138, 139, 140, 141, 142, 143, 144] (by decide +kernel) (by decide +kernel)) (goodIn_sub (fun _ h => List.mem_cons_of_mem _ (List.mem_append_right _ h)) (by decide +kernel))
set_option maxRecDepth 20000 in
theorem gX4_giveBack_X4_existingLine : GoodIn wsX4_giveBack (wsV RX4 123 RX4 yX4_existingLine wsX4_existingLine) := goodIn_app (goodIn_of _ (by decide +kernel)) ggX4_giveBack_X4_existingLine
set_option maxRecDepth 20000 in
theorem ggX4_giveBack_X4_existingSale : GoodIn wsX4_giveBack wsX4_existingSale := goodIn_ca (goodIn_r _ [17, 12, 13, 18, 19, 20, 10, 21, 22, 145, 146, 147, 148, 149, 150] (by decide +kernel) (by decide +kernel)) (goodIn_sub (fun _ h => List.mem_cons_of_mem _ (List.mem_append_right _ h)) (by decide +kernel))
set_option maxRecDepth 20000 in
theorem gX4_giveBack_X4_existingSale : GoodIn wsX4_giveBack (wsV RX4 87 RX4 yX4_existingSale wsX4_existingSale) := goodIn_app (goodIn_of _ (by decide +kernel)) ggX4_giveBack_X4_existingSale
set_option maxRecDepth 20000 in
theorem ggX4_giveBack_X4_isUnits : GoodIn wsX4_giveBack wsX4_isUnits := goodIn_r _ [31] (by decide +kernel) (by decide +kernel)
set_option maxRecDepth 20000 in
theorem gX4_giveBack_X4_isUnits : GoodIn wsX4_giveBack (va_wsS RX4 91 yX4_isUnits wsX4_isUnits) := goodIn_app (goodIn_of _ (by decide +kernel)) ggX4_giveBack_X4_isUnits
set_option maxRecDepth 20000 in
theorem ggX4_giveBack_X4_isCondition : GoodIn wsX4_giveBack wsX4_isCondition := goodIn_r _ [34] (by decide +kernel) (by decide +kernel)
set_option maxRecDepth 20000 in
theorem gX4_giveBack_X4_isCondition : GoodIn wsX4_giveBack (va_wsS RX4 150 yX4_isCondition wsX4_isCondition) := goodIn_app (goodIn_of _ (by decide +kernel)) ggX4_giveBack_X4_isCondition
set_option maxRecDepth 20000 in
theorem ggX4_giveBack_X4_canComeBack : GoodIn wsX4_giveBack wsX4_canComeBack := goodIn_r _ [38, 39, 40, 41, 42, 43, 10, 44, 45, 46, 136, 137, 138, 139, 140, 141, 142, 143, 144, 151, 152, 153, 154, 145, 146, 147, 148, 149, 150] (by decide +kernel) (by decide +kernel)
set_option maxRecDepth 20000 in
theorem gX4_giveBack_X4_canComeBack : GoodIn wsX4_giveBack (wsV RX4 155 RX4 yX4_canComeBack wsX4_canComeBack) := goodIn_app (goodIn_of _ (by decide +kernel)) ggX4_giveBack_X4_canComeBack
set_option maxRecDepth 20000 in
theorem ggX4_giveBack_X4_isBlocked : GoodIn wsX4_giveBack wsX4_isBlocked := goodIn_r _ [50, 45, 51, 52, 53, 54, 55, 56, 57, 58, 59, 145, 146, 147, 148, 149, 150, 155, 156, 157, 158] (by decide +kernel) (by decide +kernel)
set_option maxRecDepth 20000 in
theorem gX4_giveBack_X4_isBlocked : GoodIn wsX4_giveBack (wsV RX4 163 RX4 yX4_isBlocked wsX4_isBlocked) := goodIn_app (goodIn_of _ (by decide +kernel)) ggX4_giveBack_X4_isBlocked
set_option maxRecDepth 20000 in
theorem ggX4_giveBack_X4_takeBack : GoodIn wsX4_giveBack wsX4_takeBack := goodIn_r _ [63, 64, 40, 65, 5, 45, 66, 67, 68, 26, 69, 70, 71, 72, 73, 74, 75, 76, 77, 78, 79, 28, 80, 81, 82, 83, 84, 85, 86, 87, 10, 88, 89, 90, 91, 92, 93, 94, 95, 96, 97, 98, 99, 100, 101, 102, 103, 104, 105, 106, 107, 108, 109, 110, 111, 112, 113, 114, 115, 116, 117, 118, 119, 120, 121, 122, 123, 124, 125, 126, 127, 54, 128, 56, 57, 58, 59, 129, 130, 131, 132, 136, 137, 138, 139, 140, 141, 142, 143, 144, 151, 152, 153, 154, 145, 146, 147, 148, 149, 150, 159, 160, 161, 162, 155, 156, 157, 158] (by decide +kernel) (by decide +kernel)
set_option maxRecDepth 20000 in
theorem gX4_giveBack_X4_takeBack : GoodIn wsX4_giveBack (wsV RX4 169 RX4 yX4_takeBack wsX4_takeBack) := goodIn_app (goodIn_of _ (by decide +kernel)) ggX4_giveBack_X4_takeBack
set_option maxRecDepth 20000 in
theorem ggX4_giveBack_X4_ageOf : GoodIn wsX4_giveBack wsX4_ageOf := goodIn_r _ [44, 45, 46, 145, 146, 147, 148, 149, 150, 136, 137, 138, 139, 140, 141, 142, 143, 144] (by decide +kernel) (by decide +kernel)
set_option maxRecDepth 20000 in
theorem gX4_giveBack_X4_ageOf : GoodIn wsX4_giveBack (wsV RX4 173 RX4 yX4_ageOf wsX4_ageOf) := goodIn_app (goodIn_of _ (by decide +kernel)) ggX4_giveBack_X4_ageOf
set_option maxRecDepth 20000 in
theorem ggX4_giveBack_X4_feeOn : GoodIn wsX4_giveBack wsX4_feeOn := goodIn_r _ [135] (by decide +kernel) (by decide +kernel)
set_option maxRecDepth 20000 in
theorem gX4_giveBack_X4_feeOn : GoodIn wsX4_giveBack (va_wsS RX4 176 yX4_feeOn wsX4_feeOn) := goodIn_app (goodIn_of _ (by decide +kernel)) ggX4_giveBack_X4_feeOn
theorem dX4_giveBack_0 : decode cX4_giveBack 0 = .ok (.aload_n 0, 1) := by decide +kernel
theorem dX4_giveBack_1 : decode cX4_giveBack 1 = .ok (.iload_n 1, 1) := by decide +kernel
theorem dX4_giveBack_2 : decode cX4_giveBack 2 = .ok (.iload_n 2, 1) := by decide +kernel
theorem dX4_giveBack_3 : decode cX4_giveBack 3 = .ok (.invokevirtual 123, 3) := by decide +kernel
theorem dX4_giveBack_6 : decode cX4_giveBack 6 = .ok (.astore 5, 2) := by decide +kernel
theorem dX4_giveBack_8 : decode cX4_giveBack 8 = .ok (.aload_n 0, 1) := by decide +kernel
theorem dX4_giveBack_9 : decode cX4_giveBack 9 = .ok (.iload_n 1, 1) := by decide +kernel
theorem dX4_giveBack_10 : decode cX4_giveBack 10 = .ok (.invokevirtual 87, 3) := by decide +kernel
theorem dX4_giveBack_13 : decode cX4_giveBack 13 = .ok (.astore 6, 2) := by decide +kernel
theorem dX4_giveBack_15 : decode cX4_giveBack 15 = .ok (.iload_n 3, 1) := by decide +kernel
theorem dX4_giveBack_16 : decode cX4_giveBack 16 = .ok (.invokestatic 91, 3) := by decide +kernel
theorem dX4_giveBack_19 : decode cX4_giveBack 19 = .ok (.ifCond .eq 11, 3) := by decide +kernel
theorem dX4_giveBack_22 : decode cX4_giveBack 22 = .ok (.iload 4, 2) := by decide +kernel
theorem dX4_giveBack_24 : decode cX4_giveBack 24 = .ok (.invokestatic 150, 3) := by decide +kernel
theorem dX4_giveBack_27 : decode cX4_giveBack 27 = .ok (.ifCond .ne 13, 3) := by decide +kernel
theorem dX4_giveBack_30 : decode cX4_giveBack 30 = .ok (.new 38, 3) := by decide +kernel
theorem dX4_giveBack_33 : decode cX4_giveBack 33 = .ok (.dup, 1) := by decide +kernel
theorem dX4_giveBack_34 : decode cX4_giveBack 34 = .ok (.ldc 153, 2) := by decide +kernel
theorem dX4_giveBack_36 : decode cX4_giveBack 36 = .ok (.invokespecial 42, 3) := by decide +kernel
theorem dX4_giveBack_39 : decode cX4_giveBack 39 = .ok (.athrow, 1) := by decide +kernel
theorem dX4_giveBack_40 : decode cX4_giveBack 40 = .ok (.aload_n 0, 1) := by decide +kernel
theorem dX4_giveBack_41 : decode cX4_giveBack 41 = .ok (.aload 6, 2) := by decide +kernel
theorem dX4_giveBack_43 : decode cX4_giveBack 43 = .ok (.aload 5, 2) := by decide +kernel
theorem dX4_giveBack_45 : decode cX4_giveBack 45 = .ok (.iload_n 3, 1) := by decide +kernel
theorem dX4_giveBack_46 : decode cX4_giveBack 46 = .ok (.invokevirtual 155, 3) := by decide +kernel
theorem dX4_giveBack_49 : decode cX4_giveBack 49 = .ok (.ifCond .eq 15, 3) := by decide +kernel
theorem dX4_giveBack_52 : decode cX4_giveBack 52 = .ok (.aload_n 0, 1) := by decide +kernel
theorem dX4_giveBack_53 : decode cX4_giveBack 53 = .ok (.aload 6, 2) := by decide +kernel
theorem dX4_giveBack_55 : decode cX4_giveBack 55 = .ok (.getfield 159, 3) := by decide +kernel
theorem dX4_giveBack_58 : decode cX4_giveBack 58 = .ok (.invokevirtual 163, 3) := by decide +kernel
theorem dX4_giveBack_61 : decode cX4_giveBack 61 = .ok (.ifCond .eq 13, 3) := by decide +kernel
theorem dX4_giveBack_64 : decode cX4_giveBack 64 = .ok (.new 60, 3) := by decide +kernel
theorem dX4_giveBack_67 : decode cX4_giveBack 67 = .ok (.dup, 1) := by decide +kernel
theorem dX4_giveBack_68 : decode cX4_giveBack 68 = .ok (.ldc 167, 2) := by decide +kernel
theorem dX4_giveBack_70 : decode cX4_giveBack 70 = .ok (.invokespecial 64, 3) := by decide +kernel
theorem dX4_giveBack_73 : decode cX4_giveBack 73 = .ok (.athrow, 1) := by decide +kernel
theorem dX4_giveBack_74 : decode cX4_giveBack 74 = .ok (.aload_n 0, 1) := by decide +kernel
theorem dX4_giveBack_75 : decode cX4_giveBack 75 = .ok (.aload 6, 2) := by decide +kernel
theorem dX4_giveBack_77 : decode cX4_giveBack 77 = .ok (.aload 5, 2) := by decide +kernel
theorem dX4_giveBack_79 : decode cX4_giveBack 79 = .ok (.iload_n 3, 1) := by decide +kernel
theorem dX4_giveBack_80 : decode cX4_giveBack 80 = .ok (.iload 4, 2) := by decide +kernel
theorem dX4_giveBack_82 : decode cX4_giveBack 82 = .ok (.iconst 0, 1) := by decide +kernel
theorem dX4_giveBack_83 : decode cX4_giveBack 83 = .ok (.invokevirtual 169, 3) := by decide +kernel
theorem dX4_giveBack_86 : decode cX4_giveBack 86 = .ok (.istore 7, 2) := by decide +kernel
theorem dX4_giveBack_88 : decode cX4_giveBack 88 = .ok (.iload 7, 2) := by decide +kernel
theorem dX4_giveBack_90 : decode cX4_giveBack 90 = .ok (.aload_n 0, 1) := by decide +kernel
theorem dX4_giveBack_91 : decode cX4_giveBack 91 = .ok (.aload 6, 2) := by decide +kernel
theorem dX4_giveBack_93 : decode cX4_giveBack 93 = .ok (.invokevirtual 173, 3) := by decide +kernel
theorem dX4_giveBack_96 : decode cX4_giveBack 96 = .ok (.iload 4, 2) := by decide +kernel
theorem dX4_giveBack_98 : decode cX4_giveBack 98 = .ok (.invokestatic 176, 3) := by decide +kernel
theorem dX4_giveBack_101 : decode cX4_giveBack 101 = .ok (.istore 8, 2) := by decide +kernel
theorem dX4_giveBack_103 : decode cX4_giveBack 103 = .ok (.aload_n 0, 1) := by decide +kernel
theorem dX4_giveBack_104 : decode cX4_giveBack 104 = .ok (.dup, 1) := by decide +kernel
theorem dX4_giveBack_105 : decode cX4_giveBack 105 = .ok (.getfield 180, 3) := by decide +kernel
theorem dX4_giveBack_108 : decode cX4_giveBack 108 = .ok (.iload 8, 2) := by decide +kernel
theorem dX4_giveBack_110 : decode cX4_giveBack 110 = .ok (.iadd, 1) := by decide +kernel
theorem dX4_giveBack_111 : decode cX4_giveBack 111 = .ok (.putfield 180, 3) := by decide +kernel
theorem dX4_giveBack_114 : decode cX4_giveBack 114 = .ok (.iload 7, 2) := by decide +kernel
theorem dX4_giveBack_116 : decode cX4_giveBack 116 = .ok (.iload 8, 2) := by decide +kernel
theorem dX4_giveBack_118 : decode cX4_giveBack 118 = .ok (.isub, 1) := by decide +kernel
theorem dX4_giveBack_119 : decode cX4_giveBack 119 = .ok (.ireturn, 1) := by decide +kernel
set_option maxRecDepth 20000 in
theorem ggX4_exchange_X4_existingLine : GoodIn wsX4_exchange wsX4_existingLine := goodIn_ca (goodIn_r _ [20, 21, 22, 23, 24, 25, 19, 26, 27, 28, 29, 30, 31, 32, 33, 34, 9, 35, 36, 195, 196, 197, 198, 199, 200, 182, 183, 184, 185, 186, 187, 188, 189, 190] (by decide +kernel) (by decide +kernel)) (goodIn_sub (fun _ h => List.mem_cons_of_mem _ (List.mem_append_right _ h)) (by decide +kernel))
set_option maxRecDepth 20000 in
theorem gX4_exchange_X4_existingLine : GoodIn wsX4_exchange (wsV RX4 123 RX4 yX4_existingLine wsX4_existingLine) := goodIn_app (goodIn_of _ (by decide +kernel)) ggX4_exchange_X4_existingLine
set_option maxRecDepth 20000 in
theorem ggX4_exchange_X4_existingSale : GoodIn wsX4_exchange wsX4_existingSale := goodIn_ca (goodIn_r _ [26, 21, 22, 27, 28, 29, 19, 30, 31, 195, 196, 197, 198, 199, 200] (by decide +kernel) (by decide +kernel)) (goodIn_sub (fun _ h => List.mem_cons_of_mem _ (List.mem_append_right _ h)) (by decide +kernel))
set_option maxRecDepth 20000 in
theorem gX4_exchange_X4_existingSale : GoodIn wsX4_exchange (wsV RX4 87 RX4 yX4_existingSale wsX4_existingSale) := goodIn_app (goodIn_of _ (by decide +kernel)) ggX4_exchange_X4_existingSale
set_option maxRecDepth 20000 in
theorem ggX4_exchange_X4_productAt : GoodIn wsX4_exchange wsX4_productAt := goodIn_r _ [40, 41, 195, 196, 197, 198, 199, 200] (by decide +kernel) (by decide +kernel)
set_option maxRecDepth 20000 in
theorem gX4_exchange_X4_productAt : GoodIn wsX4_exchange (wsV RX4 29 RX4 yX4_productAt wsX4_productAt) := goodIn_app (goodIn_of _ (by decide +kernel)) ggX4_exchange_X4_productAt
set_option maxRecDepth 20000 in
theorem ggX4_exchange_X4_isUnits : GoodIn wsX4_exchange wsX4_isUnits := goodIn_r _ [44] (by decide +kernel) (by decide +kernel)
set_option maxRecDepth 20000 in
theorem gX4_exchange_X4_isUnits : GoodIn wsX4_exchange (va_wsS RX4 91 yX4_isUnits wsX4_isUnits) := goodIn_app (goodIn_of _ (by decide +kernel)) ggX4_exchange_X4_isUnits
set_option maxRecDepth 20000 in
theorem ggX4_exchange_X4_isCondition : GoodIn wsX4_exchange wsX4_isCondition := goodIn_r _ [47] (by decide +kernel) (by decide +kernel)
set_option maxRecDepth 20000 in
theorem gX4_exchange_X4_isCondition : GoodIn wsX4_exchange (va_wsS RX4 150 yX4_isCondition wsX4_isCondition) := goodIn_app (goodIn_of _ (by decide +kernel)) ggX4_exchange_X4_isCondition
set_option maxRecDepth 20000 in
theorem ggX4_exchange_X4_canComeBack : GoodIn wsX4_exchange wsX4_canComeBack := goodIn_r _ [51, 52, 53, 54, 55, 56, 19, 57, 58, 14, 182, 183, 184, 185, 186, 187, 188, 189, 190, 191, 192, 193, 194, 195, 196, 197, 198, 199, 200] (by decide +kernel) (by decide +kernel)
set_option maxRecDepth 20000 in
theorem gX4_exchange_X4_canComeBack : GoodIn wsX4_exchange (wsV RX4 155 RX4 yX4_canComeBack wsX4_canComeBack) := goodIn_app (goodIn_of _ (by decide +kernel)) ggX4_exchange_X4_canComeBack
set_option maxRecDepth 20000 in
theorem ggX4_exchange_X4_isBlocked : GoodIn wsX4_exchange wsX4_isBlocked := goodIn_r _ [62, 58, 63, 64, 65, 66, 67, 68, 69, 70, 71, 195, 196, 197, 198, 199, 200, 201, 202, 203, 204] (by decide +kernel) (by decide +kernel)
set_option maxRecDepth 20000 in
theorem gX4_exchange_X4_isBlocked : GoodIn wsX4_exchange (wsV RX4 163 RX4 yX4_isBlocked wsX4_isBlocked) := goodIn_app (goodIn_of _ (by decide +kernel)) ggX4_exchange_X4_isBlocked
set_option maxRecDepth 20000 in
theorem ggX4_exchange_X4_isRegisterFull : GoodIn wsX4_exchange wsX4_isRegisterFull := goodIn_r _ [75, 76, 31, 195, 196, 197, 198, 199, 200] (by decide +kernel) (by decide +kernel)
set_option maxRecDepth 20000 in
theorem gX4_exchange_X4_isRegisterFull : GoodIn wsX4_exchange (wsV RX4 71 RX4 yX4_isRegisterFull wsX4_isRegisterFull) := goodIn_app (goodIn_of _ (by decide +kernel)) ggX4_exchange_X4_isRegisterFull
set_option maxRecDepth 20000 in
theorem ggX4_exchange_X4_takeBack : GoodIn wsX4_exchange wsX4_takeBack := goodIn_r _ [80, 81, 53, 82, 5, 58, 83, 84, 85, 9, 86, 87, 88, 89, 90, 91, 92, 93, 94, 95, 96, 36, 97, 98, 99, 100, 13, 101, 102, 103, 19, 104, 105, 106, 107, 108, 109, 110, 111, 112, 113, 114, 115, 116, 117, 118, 119, 120, 121, 122, 123, 124, 125, 126, 127, 128, 129, 130, 131, 132, 133, 134, 135, 136, 137, 138, 139, 140, 141, 142, 143, 66, 144, 68, 69, 70, 71, 145, 146, 147, 148, 182, 183, 184, 185, 186, 187, 188, 189, 190, 191, 192, 193, 194, 195, 196, 197, 198, 199, 200, 205, 206, 207, 208, 201, 202, 203, 204] (by decide +kernel) (by decide +kernel)
set_option maxRecDepth 20000 in
theorem gX4_exchange_X4_takeBack : GoodIn wsX4_exchange (wsV RX4 169 RX4 yX4_takeBack wsX4_takeBack) := goodIn_app (goodIn_of _ (by decide +kernel)) ggX4_exchange_X4_takeBack
set_option maxRecDepth 20000 in
theorem ggX4_exchange_X3_init : GoodIn wsX4_exchange wsX3_init := goodIn_r _ [151, 152, 153, 154, 155, 36, 156, 157, 158, 182, 183, 184, 185, 186, 187, 188, 189, 190] (by decide +kernel) (by decide +kernel)
set_option maxRecDepth 20000 in
theorem gX4_exchange_X3_init : GoodIn wsX4_exchange (wsX3_init) := ggX4_exchange_X3_init
set_option maxRecDepth 20000 in
theorem ggX4_exchange_X1_init : GoodIn wsX4_exchange wsX1_init := goodIn_r _ [161, 162, 153, 154, 163, 164, 165, 102, 191, 192, 193, 194, 205, 206, 207, 208] (by decide +kernel) (by decide +kernel)
set_option maxRecDepth 20000 in
theorem gX4_exchange_X1_init : GoodIn wsX4_exchange (wsX1_init) := ggX4_exchange_X1_init
set_option maxRecDepth 20000 in
theorem ggX4_exchange_X3_append : GoodIn wsX4_exchange wsX3_append := goodIn_r _ [169, 170, 36, 182, 183, 184, 185, 186, 187, 188, 189, 190] (by decide +kernel) (by decide +kernel)
set_option maxRecDepth 20000 in
theorem gX4_exchange_X3_append : GoodIn wsX4_exchange (wsV RX4 110 RX3 yX3_append wsX3_append) := goodIn_app (goodIn_of _ (by decide +kernel)) ggX4_exchange_X3_append
set_option maxRecDepth 20000 in
theorem ggX4_exchange_X3_settle : GoodIn wsX4_exchange wsX3_settle := goodIn_r _ [174, 36, 175, 97, 176, 177, 87, 93, 94, 95, 9, 96, 98, 99, 100, 13, 101, 102, 103, 19, 104, 105, 106, 107, 182, 183, 184, 185, 186, 187, 188, 189, 190, 191, 192, 193, 194] (by decide +kernel) (by decide +kernel)
set_option maxRecDepth 20000 in
theorem gX4_exchange_X3_settle : GoodIn wsX4_exchange (wsV RX4 116 RX3 yX3_settle wsX3_settle) := goodIn_app (goodIn_of _ (by decide +kernel)) ggX4_exchange_X3_settle
set_option maxRecDepth 20000 in
theorem ggX4_exchange_X4_enter : GoodIn wsX4_exchange wsX4_enter := goodIn_r _ [181, 76, 31, 195, 196, 197, 198, 199, 200] (by decide +kernel) (by decide +kernel)
set_option maxRecDepth 20000 in
theorem gX4_exchange_X4_enter : GoodIn wsX4_exchange (wsV RX4 83 RX4 yX4_enter wsX4_enter) := goodIn_app (goodIn_of _ (by decide +kernel)) ggX4_exchange_X4_enter
theorem dX4_exchange_0 : decode cX4_exchange 0 = .ok (.aload_n 0, 1) := by decide +kernel
theorem dX4_exchange_1 : decode cX4_exchange 1 = .ok (.iload_n 1, 1) := by decide +kernel
theorem dX4_exchange_2 : decode cX4_exchange 2 = .ok (.iload_n 2, 1) := by decide +kernel
theorem dX4_exchange_3 : decode cX4_exchange 3 = .ok (.invokevirtual 123, 3) := by decide +kernel
theorem dX4_exchange_6 : decode cX4_exchange 6 = .ok (.astore 6, 2) := by decide +kernel
theorem dX4_exchange_8 : decode cX4_exchange 8 = .ok (.aload_n 0, 1) := by decide +kernel
theorem dX4_exchange_9 : decode cX4_exchange 9 = .ok (.iload_n 1, 1) := by decide +kernel
theorem dX4_exchange_10 : decode cX4_exchange 10 = .ok (.invokevirtual 87, 3) := by decide +kernel
theorem dX4_exchange_13 : decode cX4_exchange 13 = .ok (.astore 7, 2) := by decide +kernel
theorem dX4_exchange_15 : decode cX4_exchange 15 = .ok (.aload_n 0, 1) := by decide +kernel
theorem dX4_exchange_16 : decode cX4_exchange 16 = .ok (.iload 5, 2) := by decide +kernel
theorem dX4_exchange_18 : decode cX4_exchange 18 = .ok (.invokevirtual 29, 3) := by decide +kernel
theorem dX4_exchange_21 : decode cX4_exchange 21 = .ok (.astore 8, 2) := by decide +kernel
theorem dX4_exchange_23 : decode cX4_exchange 23 = .ok (.aload 8, 2) := by decide +kernel
theorem dX4_exchange_25 : decode cX4_exchange 25 = .ok (.ifnull 18, 3) := by decide +kernel
theorem dX4_exchange_28 : decode cX4_exchange 28 = .ok (.iload_n 3, 1) := by decide +kernel
theorem dX4_exchange_29 : decode cX4_exchange 29 = .ok (.invokestatic 91, 3) := by decide +kernel
theorem dX4_exchange_32 : decode cX4_exchange 32 = .ok (.ifCond .eq 11, 3) := by decide +kernel
theorem dX4_exchange_35 : decode cX4_exchange 35 = .ok (.iload 4, 2) := by decide +kernel
theorem dX4_exchange_37 : decode cX4_exchange 37 = .ok (.invokestatic 150, 3) := by decide +kernel
theorem dX4_exchange_40 : decode cX4_exchange 40 = .ok (.ifCond .ne 13, 3) := by decide +kernel
theorem dX4_exchange_43 : decode cX4_exchange 43 = .ok (.new 38, 3) := by decide +kernel
theorem dX4_exchange_46 : decode cX4_exchange 46 = .ok (.dup, 1) := by decide +kernel
theorem dX4_exchange_47 : decode cX4_exchange 47 = .ok (.ldc 183, 2) := by decide +kernel
theorem dX4_exchange_49 : decode cX4_exchange 49 = .ok (.invokespecial 42, 3) := by decide +kernel
theorem dX4_exchange_52 : decode cX4_exchange 52 = .ok (.athrow, 1) := by decide +kernel
theorem dX4_exchange_53 : decode cX4_exchange 53 = .ok (.aload_n 0, 1) := by decide +kernel
theorem dX4_exchange_54 : decode cX4_exchange 54 = .ok (.aload 7, 2) := by decide +kernel
theorem dX4_exchange_56 : decode cX4_exchange 56 = .ok (.aload 6, 2) := by decide +kernel
theorem dX4_exchange_58 : decode cX4_exchange 58 = .ok (.iload_n 3, 1) := by decide +kernel
theorem dX4_exchange_59 : decode cX4_exchange 59 = .ok (.invokevirtual 155, 3) := by decide +kernel
theorem dX4_exchange_62 : decode cX4_exchange 62 = .ok (.ifCond .eq 22, 3) := by decide +kernel
theorem dX4_exchange_65 : decode cX4_exchange 65 = .ok (.aload_n 0, 1) := by decide +kernel
theorem dX4_exchange_66 : decode cX4_exchange 66 = .ok (.aload 7, 2) := by decide +kernel
theorem dX4_exchange_68 : decode cX4_exchange 68 = .ok (.getfield 159, 3) := by decide +kernel
theorem dX4_exchange_71 : decode cX4_exchange 71 = .ok (.invokevirtual 163, 3) := by decide +kernel
theorem dX4_exchange_74 : decode cX4_exchange 74 = .ok (.ifCond .ne 10, 3) := by decide +kernel
theorem dX4_exchange_77 : decode cX4_exchange 77 = .ok (.aload_n 0, 1) := by decide +kernel
theorem dX4_exchange_78 : decode cX4_exchange 78 = .ok (.invokevirtual 71, 3) := by decide +kernel
theorem dX4_exchange_81 : decode cX4_exchange 81 = .ok (.ifCond .eq 13, 3) := by decide +kernel
theorem dX4_exchange_84 : decode cX4_exchange 84 = .ok (.new 60, 3) := by decide +kernel
theorem dX4_exchange_87 : decode cX4_exchange 87 = .ok (.dup, 1) := by decide +kernel
theorem dX4_exchange_88 : decode cX4_exchange 88 = .ok (.ldc 185, 2) := by decide +kernel
theorem dX4_exchange_90 : decode cX4_exchange 90 = .ok (.invokespecial 64, 3) := by decide +kernel
theorem dX4_exchange_93 : decode cX4_exchange 93 = .ok (.athrow, 1) := by decide +kernel
theorem dX4_exchange_94 : decode cX4_exchange 94 = .ok (.aload_n 0, 1) := by decide +kernel
theorem dX4_exchange_95 : decode cX4_exchange 95 = .ok (.aload 7, 2) := by decide +kernel
theorem dX4_exchange_97 : decode cX4_exchange 97 = .ok (.aload 6, 2) := by decide +kernel
theorem dX4_exchange_99 : decode cX4_exchange 99 = .ok (.iload_n 3, 1) := by decide +kernel
theorem dX4_exchange_100 : decode cX4_exchange 100 = .ok (.iload 4, 2) := by decide +kernel
theorem dX4_exchange_102 : decode cX4_exchange 102 = .ok (.aload 7, 2) := by decide +kernel
theorem dX4_exchange_104 : decode cX4_exchange 104 = .ok (.getfield 187, 3) := by decide +kernel
theorem dX4_exchange_107 : decode cX4_exchange 107 = .ok (.ifCond .le 7, 3) := by decide +kernel
theorem dX4_exchange_110 : decode cX4_exchange 110 = .ok (.iconst 1, 1) := by decide +kernel
theorem dX4_exchange_111 : decode cX4_exchange 111 = .ok (.goto 4, 3) := by decide +kernel
theorem dX4_exchange_114 : decode cX4_exchange 114 = .ok (.iconst 0, 1) := by decide +kernel
theorem dX4_exchange_115 : decode cX4_exchange 115 = .ok (.invokevirtual 169, 3) := by decide +kernel
theorem dX4_exchange_118 : decode cX4_exchange 118 = .ok (.istore 9, 2) := by decide +kernel
theorem dX4_exchange_120 : decode cX4_exchange 120 = .ok (.new 23, 3) := by decide +kernel
theorem dX4_exchange_123 : decode cX4_exchange 123 = .ok (.dup, 1) := by decide +kernel
theorem dX4_exchange_124 : decode cX4_exchange 124 = .ok (.aload 7, 2) := by decide +kernel
theorem dX4_exchange_126 : decode cX4_exchange 126 = .ok (.getfield 159, 3) := by decide +kernel
theorem dX4_exchange_129 : decode cX4_exchange 129 = .ok (.aload 7, 2) := by decide +kernel
theorem dX4_exchange_131 : decode cX4_exchange 131 = .ok (.getfield 190, 3) := by decide +kernel
theorem dX4_exchange_134 : decode cX4_exchange 134 = .ok (.aload 7, 2) := by decide +kernel
theorem dX4_exchange_136 : decode cX4_exchange 136 = .ok (.getfield 187, 3) := by decide +kernel
theorem dX4_exchange_139 : decode cX4_exchange 139 = .ok (.iconst 1, 1) := by decide +kernel
theorem dX4_exchange_140 : decode cX4_exchange 140 = .ok (.iadd, 1) := by decide +kernel
theorem dX4_exchange_141 : decode cX4_exchange 141 = .ok (.invokespecial 80, 3) := by decide +kernel
theorem dX4_exchange_144 : decode cX4_exchange 144 = .ok (.astore 10, 2) := by decide +kernel
theorem dX4_exchange_146 : decode cX4_exchange 146 = .ok (.aload 10, 2) := by decide +kernel
