theorem dX5_net_4 : decode cX5_net 4 = .ok (.if_icmp .ge 7, 3) := by decide +kernel
theorem dX5_net_7 : decode cX5_net 7 = .ok (.lconst 0, 1) := by decide +kernel
theorem dX5_net_8 : decode cX5_net 8 = .ok (.goto 32, 3) := by decide +kernel
theorem dX5_net_11 : decode cX5_net 11 = .ok (.iload_n 0, 1) := by decide +kernel
theorem dX5_net_12 : decode cX5_net 12 = .ok (.sipush 10000, 3) := by decide +kernel
theorem dX5_net_15 : decode cX5_net 15 = .ok (.if_icmp .ge 9, 3) := by decide +kernel
theorem dX5_net_18 : decode cX5_net 18 = .ok (.ldc2_w 125, 3) := by decide +kernel
theorem dX5_net_21 : decode cX5_net 21 = .ok (.goto 19, 3) := by decide +kernel
theorem dX5_net_24 : decode cX5_net 24 = .ok (.iload_n 0, 1) := by decide +kernel
theorem dX5_net_25 : decode cX5_net 25 = .ok (.sipush 20000, 3) := by decide +kernel
theorem dX5_net_28 : decode cX5_net 28 = .ok (.if_icmp .ge 9, 3) := by decide +kernel
theorem dX5_net_31 : decode cX5_net 31 = .ok (.ldc2_w 127, 3) := by decide +kernel
theorem dX5_net_34 : decode cX5_net 34 = .ok (.goto 6, 3) := by decide +kernel
theorem dX5_net_37 : decode cX5_net 37 = .ok (.ldc2_w 129, 3) := by decide +kernel
theorem dX5_net_40 : decode cX5_net 40 = .ok (.lstore_n 1, 1) := by decide +kernel
theorem dX5_net_41 : decode cX5_net 41 = .ok (.iload_n 0, 1) := by decide +kernel
theorem dX5_net_42 : decode cX5_net 42 = .ok (.i2l, 1) := by decide +kernel
theorem dX5_net_43 : decode cX5_net 43 = .ok (.iload_n 0, 1) := by decide +kernel
theorem dX5_net_44 : decode cX5_net 44 = .ok (.i2l, 1) := by decide +kernel
theorem dX5_net_45 : decode cX5_net 45 = .ok (.lload_n 1, 1) := by decide +kernel
theorem dX5_net_46 : decode cX5_net 46 = .ok (.lmul, 1) := by decide +kernel
theorem dX5_net_47 : decode cX5_net 47 = .ok (.ldc2_w 131, 3) := by decide +kernel
theorem dX5_net_50 : decode cX5_net 50 = .ok (.ldiv, 1) := by decide +kernel
theorem dX5_net_51 : decode cX5_net 51 = .ok (.lsub, 1) := by decide +kernel
theorem dX5_net_52 : decode cX5_net 52 = .ok (.l2i, 1) := by decide +kernel
theorem dX5_net_53 : decode cX5_net 53 = .ok (.ireturn, 1) := by decide +kernel
set_option maxRecDepth 20000 in
theorem ggX5_keptValue_X5_isSale : GoodIn wsX5_keptValue wsX5_isSale := goodIn_r _ [5, 6, 7, 8, 4, 9, 38, 39, 40, 41, 42, 43, 44, 45, 46, 47, 48, 49, 50, 51, 52, 53, 54, 55, 56, 57, 58, 59, 60, 61, 62] (by decide +kernel) (by decide +kernel)
set_option maxRecDepth 20000 in
theorem gX5_keptValue_X5_isSale : GoodIn wsX5_keptValue (wsV RX5 83 RX5 yX5_isSale wsX5_isSale) := goodIn_app (goodIn_of _ (by decide +kernel)) ggX5_keptValue_X5_isSale
set_option maxRecDepth 20000 in
theorem ggX5_keptValue_X5_goes : GoodIn wsX5_keptValue wsX5_goes := goodIn_r _ [13, 14, 38, 39, 40, 41, 42, 43, 44, 45, 46, 47, 48, 49, 50, 51, 52, 53, 54, 55, 56, 57, 58, 59, 60, 61, 62] (by decide +kernel) (by decide +kernel)
set_option maxRecDepth 20000 in
theorem gX5_keptValue_X5_goes : GoodIn wsX5_keptValue (wsV RX5 91 RX5 yX5_goes wsX5_goes) := goodIn_app (goodIn_of _ (by decide +kernel)) ggX5_keptValue_X5_goes
set_option maxRecDepth 20000 in
theorem ggX5_keptValue_X5_isOpen : GoodIn wsX5_keptValue wsX5_isOpen := goodIn_r _ [18, 19, 38, 39, 40, 41, 42, 43, 44, 45, 46, 47, 48, 49, 50, 51, 52, 53, 54, 55, 56, 57, 58, 59, 60, 61, 62] (by decide +kernel) (by decide +kernel)
set_option maxRecDepth 20000 in
theorem gX5_keptValue_X5_isOpen : GoodIn wsX5_keptValue (wsV RX5 107 RX5 yX5_isOpen wsX5_isOpen) := goodIn_app (goodIn_of _ (by decide +kernel)) ggX5_keptValue_X5_isOpen
set_option maxRecDepth 20000 in
theorem ggX5_keptValue_X5_goods : GoodIn wsX5_keptValue wsX5_goods := goodIn_r _ [23, 24, 25, 26, 27, 4, 28, 29, 30, 38, 39, 40, 41, 42, 43, 44, 45, 46, 47, 48, 49, 50, 51, 52, 53, 54, 55, 56, 57, 58, 59, 60, 61, 62] (by decide +kernel) (by decide +kernel)
set_option maxRecDepth 20000 in
theorem gX5_keptValue_X5_goods : GoodIn wsX5_keptValue (wsV RX5 97 RX5 yX5_goods wsX5_goods) := goodIn_app (goodIn_of _ (by decide +kernel)) ggX5_keptValue_X5_goods
set_option maxRecDepth 20000 in
theorem ggX5_keptValue_X5_net : GoodIn wsX5_keptValue wsX5_net := goodIn_r _ [33, 34, 35, 36, 37] (by decide +kernel) (by decide +kernel)
set_option maxRecDepth 20000 in
theorem gX5_keptValue_X5_net : GoodIn wsX5_keptValue (va_wsS RX5 101 yX5_net wsX5_net) := goodIn_app (goodIn_of _ (by decide +kernel)) ggX5_keptValue_X5_net
theorem dX5_keptValue_0 : decode cX5_keptValue 0 = .ok (.aload_n 0, 1) := by decide +kernel
theorem dX5_keptValue_1 : decode cX5_keptValue 1 = .ok (.aload_n 0, 1) := by decide +kernel
theorem dX5_keptValue_2 : decode cX5_keptValue 2 = .ok (.iload_n 1, 1) := by decide +kernel
theorem dX5_keptValue_3 : decode cX5_keptValue 3 = .ok (.invokevirtual 83, 3) := by decide +kernel
theorem dX5_keptValue_6 : decode cX5_keptValue 6 = .ok (.ifCond .eq 7, 3) := by decide +kernel
theorem dX5_keptValue_9 : decode cX5_keptValue 9 = .ok (.iconst 0, 1) := by decide +kernel
theorem dX5_keptValue_10 : decode cX5_keptValue 10 = .ok (.goto 4, 3) := by decide +kernel
theorem dX5_keptValue_13 : decode cX5_keptValue 13 = .ok (.iconst 1, 1) := by decide +kernel
theorem dX5_keptValue_14 : decode cX5_keptValue 14 = .ok (.invokevirtual 91, 3) := by decide +kernel
theorem dX5_keptValue_17 : decode cX5_keptValue 17 = .ok (.ifCond .eq 22, 3) := by decide +kernel
theorem dX5_keptValue_20 : decode cX5_keptValue 20 = .ok (.aload_n 0, 1) := by decide +kernel
theorem dX5_keptValue_21 : decode cX5_keptValue 21 = .ok (.iload_n 1, 1) := by decide +kernel
theorem dX5_keptValue_22 : decode cX5_keptValue 22 = .ok (.invokevirtual 107, 3) := by decide +kernel
theorem dX5_keptValue_25 : decode cX5_keptValue 25 = .ok (.ifCond .ne 14, 3) := by decide +kernel
theorem dX5_keptValue_28 : decode cX5_keptValue 28 = .ok (.aload_n 0, 1) := by decide +kernel
theorem dX5_keptValue_29 : decode cX5_keptValue 29 = .ok (.iload_n 1, 1) := by decide +kernel
theorem dX5_keptValue_30 : decode cX5_keptValue 30 = .ok (.invokevirtual 97, 3) := by decide +kernel
theorem dX5_keptValue_33 : decode cX5_keptValue 33 = .ok (.invokestatic 101, 3) := by decide +kernel
theorem dX5_keptValue_36 : decode cX5_keptValue 36 = .ok (.goto 4, 3) := by decide +kernel
theorem dX5_keptValue_39 : decode cX5_keptValue 39 = .ok (.iconst 0, 1) := by decide +kernel
theorem dX5_keptValue_40 : decode cX5_keptValue 40 = .ok (.ireturn, 1) := by decide +kernel
theorem dX5_next_0 : decode cX5_next 0 = .ok (.iconst 0, 1) := by decide +kernel
theorem dX5_next_1 : decode cX5_next 1 = .ok (.istore_n 2, 1) := by decide +kernel
theorem dX5_next_2 : decode cX5_next 2 = .ok (.iconst 1, 1) := by decide +kernel
theorem dX5_next_3 : decode cX5_next 3 = .ok (.istore_n 3, 1) := by decide +kernel
theorem dX5_next_4 : decode cX5_next 4 = .ok (.iload_n 3, 1) := by decide +kernel
theorem dX5_next_5 : decode cX5_next 5 = .ok (.aload_n 0, 1) := by decide +kernel
theorem dX5_next_6 : decode cX5_next 6 = .ok (.getfield 25, 3) := by decide +kernel
theorem dX5_next_9 : decode cX5_next 9 = .ok (.iload_n 1, 1) := by decide +kernel
theorem dX5_next_10 : decode cX5_next 10 = .ok (.iaload, 1) := by decide +kernel
theorem dX5_next_11 : decode cX5_next 11 = .ok (.if_icmp .ge 31, 3) := by decide +kernel
theorem dX5_next_14 : decode cX5_next 14 = .ok (.aload_n 0, 1) := by decide +kernel
theorem dX5_next_15 : decode cX5_next 15 = .ok (.getfield 65, 3) := by decide +kernel
theorem dX5_next_18 : decode cX5_next 18 = .ok (.iload_n 3, 1) := by decide +kernel
theorem dX5_next_19 : decode cX5_next 19 = .ok (.laload, 1) := by decide +kernel
theorem dX5_next_20 : decode cX5_next 20 = .ok (.aload_n 0, 1) := by decide +kernel
theorem dX5_next_21 : decode cX5_next 21 = .ok (.getfield 65, 3) := by decide +kernel
theorem dX5_next_24 : decode cX5_next 24 = .ok (.iload_n 2, 1) := by decide +kernel
theorem dX5_next_25 : decode cX5_next 25 = .ok (.laload, 1) := by decide +kernel
theorem dX5_next_26 : decode cX5_next 26 = .ok (.lcmp, 1) := by decide +kernel
theorem dX5_next_27 : decode cX5_next 27 = .ok (.ifCond .le 7, 3) := by decide +kernel
theorem dX5_next_30 : decode cX5_next 30 = .ok (.iload_n 3, 1) := by decide +kernel
theorem dX5_next_31 : decode cX5_next 31 = .ok (.goto 4, 3) := by decide +kernel
theorem dX5_next_34 : decode cX5_next 34 = .ok (.iload_n 2, 1) := by decide +kernel
theorem dX5_next_35 : decode cX5_next 35 = .ok (.istore_n 2, 1) := by decide +kernel
theorem dX5_next_36 : decode cX5_next 36 = .ok (.iinc 3 1, 3) := by decide +kernel
theorem dX5_next_39 : decode cX5_next 39 = .ok (.goto (-35), 3) := by decide +kernel
theorem dX5_next_42 : decode cX5_next 42 = .ok (.aload_n 0, 1) := by decide +kernel
theorem dX5_next_43 : decode cX5_next 43 = .ok (.getfield 65, 3) := by decide +kernel
theorem dX5_next_46 : decode cX5_next 46 = .ok (.iload_n 2, 1) := by decide +kernel
theorem dX5_next_47 : decode cX5_next 47 = .ok (.ldc2_w 133, 3) := by decide +kernel
theorem dX5_next_50 : decode cX5_next 50 = .ok (.lastore, 1) := by decide +kernel
theorem dX5_next_51 : decode cX5_next 51 = .ok (.iload_n 2, 1) := by decide +kernel
theorem dX5_next_52 : decode cX5_next 52 = .ok (.ireturn, 1) := by decide +kernel
set_option maxRecDepth 20000 in
theorem ggX5_splits_X5_goods : GoodIn wsX5_splits wsX5_goods := goodIn_r _ [8, 1, 9, 10, 11, 7, 12, 13, 14, 27, 28, 29, 30, 31, 32, 33, 34, 35, 36, 37, 38, 39, 40, 41, 42, 43, 44, 45, 46, 47, 48, 49, 50, 51] (by decide +kernel) (by decide +kernel)
set_option maxRecDepth 20000 in
theorem gX5_splits_X5_goods : GoodIn wsX5_splits (wsV RX5 97 RX5 yX5_goods wsX5_goods) := goodIn_app (goodIn_of _ (by decide +kernel)) ggX5_splits_X5_goods
set_option maxRecDepth 20000 in
theorem ggX5_splits_X5_net : GoodIn wsX5_splits wsX5_net := goodIn_r _ [17, 18, 19, 20, 21] (by decide +kernel) (by decide +kernel)
set_option maxRecDepth 20000 in
theorem gX5_splits_X5_net : GoodIn wsX5_splits (va_wsS RX5 101 yX5_net wsX5_net) := goodIn_app (goodIn_of _ (by decide +kernel)) ggX5_splits_X5_net
set_option maxRecDepth 20000 in
theorem ggX5_splits_X5_goodsOf : GoodIn wsX5_splits wsX5_goodsOf := goodIn_r _ [12, 13, 14, 27, 28, 29, 30, 31, 32, 33, 34, 35, 36, 37, 38, 39, 40, 41, 42, 43, 44, 45, 46, 47, 48, 49, 50, 51] (by decide +kernel) (by decide +kernel)
set_option maxRecDepth 20000 in
theorem gX5_splits_X5_goodsOf : GoodIn wsX5_splits (wsV RX5 121 RX5 yX5_goodsOf wsX5_goodsOf) := goodIn_app (goodIn_of _ (by decide +kernel)) ggX5_splits_X5_goodsOf
set_option maxRecDepth 20000 in
theorem ggX5_splits_X5_next : GoodIn wsX5_splits wsX5_next := goodIn_r _ [25, 1, 3, 26, 27, 28, 29, 30, 31, 32, 33, 34, 35, 36, 37, 38, 39, 40, 41, 42, 43, 44, 45, 46, 47, 48, 49, 50, 51] (by decide +kernel) (by decide +kernel)
set_option maxRecDepth 20000 in
theorem gX5_splits_X5_next : GoodIn wsX5_splits (wsV RX5 135 RX5 yX5_next wsX5_next) := goodIn_app (goodIn_of _ (by decide +kernel)) ggX5_splits_X5_next
theorem dX5_splits_0 : decode cX5_splits 0 = .ok (.aload_n 0, 1) := by decide +kernel
theorem dX5_splits_1 : decode cX5_splits 1 = .ok (.iload_n 1, 1) := by decide +kernel
theorem dX5_splits_2 : decode cX5_splits 2 = .ok (.invokevirtual 97, 3) := by decide +kernel
theorem dX5_splits_5 : decode cX5_splits 5 = .ok (.istore_n 2, 1) := by decide +kernel
theorem dX5_splits_6 : decode cX5_splits 6 = .ok (.iload_n 2, 1) := by decide +kernel
theorem dX5_splits_7 : decode cX5_splits 7 = .ok (.invokestatic 101, 3) := by decide +kernel
theorem dX5_splits_10 : decode cX5_splits 10 = .ok (.istore_n 3, 1) := by decide +kernel
theorem dX5_splits_11 : decode cX5_splits 11 = .ok (.iload_n 3, 1) := by decide +kernel
theorem dX5_splits_12 : decode cX5_splits 12 = .ok (.istore 4, 2) := by decide +kernel
theorem dX5_splits_14 : decode cX5_splits 14 = .ok (.iconst 0, 1) := by decide +kernel
theorem dX5_splits_15 : decode cX5_splits 15 = .ok (.istore 5, 2) := by decide +kernel
theorem dX5_splits_17 : decode cX5_splits 17 = .ok (.iload 5, 2) := by decide +kernel
theorem dX5_splits_19 : decode cX5_splits 19 = .ok (.aload_n 0, 1) := by decide +kernel
theorem dX5_splits_20 : decode cX5_splits 20 = .ok (.getfield 25, 3) := by decide +kernel
theorem dX5_splits_23 : decode cX5_splits 23 = .ok (.iload_n 1, 1) := by decide +kernel
theorem dX5_splits_24 : decode cX5_splits 24 = .ok (.iaload, 1) := by decide +kernel
theorem dX5_splits_25 : decode cX5_splits 25 = .ok (.if_icmp .ge 75, 3) := by decide +kernel
theorem dX5_splits_28 : decode cX5_splits 28 = .ok (.iload_n 3, 1) := by decide +kernel
theorem dX5_splits_29 : decode cX5_splits 29 = .ok (.i2l, 1) := by decide +kernel
theorem dX5_splits_30 : decode cX5_splits 30 = .ok (.aload_n 0, 1) := by decide +kernel
theorem dX5_splits_31 : decode cX5_splits 31 = .ok (.iload_n 1, 1) := by decide +kernel
theorem dX5_splits_32 : decode cX5_splits 32 = .ok (.iload 5, 2) := by decide +kernel
theorem dX5_splits_34 : decode cX5_splits 34 = .ok (.invokevirtual 121, 3) := by decide +kernel
theorem dX5_splits_37 : decode cX5_splits 37 = .ok (.i2l, 1) := by decide +kernel
theorem dX5_splits_38 : decode cX5_splits 38 = .ok (.lmul, 1) := by decide +kernel
theorem dX5_splits_39 : decode cX5_splits 39 = .ok (.lstore 6, 2) := by decide +kernel
theorem dX5_splits_41 : decode cX5_splits 41 = .ok (.aload_n 0, 1) := by decide +kernel
theorem dX5_splits_42 : decode cX5_splits 42 = .ok (.getfield 69, 3) := by decide +kernel
theorem dX5_splits_45 : decode cX5_splits 45 = .ok (.iload 5, 2) := by decide +kernel
theorem dX5_splits_47 : decode cX5_splits 47 = .ok (.iload_n 2, 1) := by decide +kernel
theorem dX5_splits_48 : decode cX5_splits 48 = .ok (.ifCond .ne 7, 3) := by decide +kernel
theorem dX5_splits_51 : decode cX5_splits 51 = .ok (.iconst 0, 1) := by decide +kernel
theorem dX5_splits_52 : decode cX5_splits 52 = .ok (.goto 9, 3) := by decide +kernel
theorem dX5_splits_55 : decode cX5_splits 55 = .ok (.lload 6, 2) := by decide +kernel
theorem dX5_splits_57 : decode cX5_splits 57 = .ok (.iload_n 2, 1) := by decide +kernel
theorem dX5_splits_58 : decode cX5_splits 58 = .ok (.i2l, 1) := by decide +kernel
theorem dX5_splits_59 : decode cX5_splits 59 = .ok (.ldiv, 1) := by decide +kernel
theorem dX5_splits_60 : decode cX5_splits 60 = .ok (.l2i, 1) := by decide +kernel
theorem dX5_splits_61 : decode cX5_splits 61 = .ok (.iastore, 1) := by decide +kernel
theorem dX5_splits_62 : decode cX5_splits 62 = .ok (.aload_n 0, 1) := by decide +kernel
theorem dX5_splits_63 : decode cX5_splits 63 = .ok (.getfield 65, 3) := by decide +kernel
theorem dX5_splits_66 : decode cX5_splits 66 = .ok (.iload 5, 2) := by decide +kernel
theorem dX5_splits_68 : decode cX5_splits 68 = .ok (.iload_n 2, 1) := by decide +kernel
theorem dX5_splits_69 : decode cX5_splits 69 = .ok (.ifCond .ne 7, 3) := by decide +kernel
theorem dX5_splits_72 : decode cX5_splits 72 = .ok (.lconst 0, 1) := by decide +kernel
theorem dX5_splits_73 : decode cX5_splits 73 = .ok (.goto 8, 3) := by decide +kernel
theorem dX5_splits_76 : decode cX5_splits 76 = .ok (.lload 6, 2) := by decide +kernel
theorem dX5_splits_78 : decode cX5_splits 78 = .ok (.iload_n 2, 1) := by decide +kernel
theorem dX5_splits_79 : decode cX5_splits 79 = .ok (.i2l, 1) := by decide +kernel
theorem dX5_splits_80 : decode cX5_splits 80 = .ok (.lrem, 1) := by decide +kernel
theorem dX5_splits_81 : decode cX5_splits 81 = .ok (.lastore, 1) := by decide +kernel
theorem dX5_splits_82 : decode cX5_splits 82 = .ok (.iload 4, 2) := by decide +kernel
theorem dX5_splits_84 : decode cX5_splits 84 = .ok (.aload_n 0, 1) := by decide +kernel
theorem dX5_splits_85 : decode cX5_splits 85 = .ok (.getfield 69, 3) := by decide +kernel
theorem dX5_splits_88 : decode cX5_splits 88 = .ok (.iload 5, 2) := by decide +kernel
theorem dX5_splits_90 : decode cX5_splits 90 = .ok (.iaload, 1) := by decide +kernel
theorem dX5_splits_91 : decode cX5_splits 91 = .ok (.isub, 1) := by decide +kernel
theorem dX5_splits_92 : decode cX5_splits 92 = .ok (.istore 4, 2) := by decide +kernel
theorem dX5_splits_94 : decode cX5_splits 94 = .ok (.iinc 5 1, 3) := by decide +kernel
theorem dX5_splits_97 : decode cX5_splits 97 = .ok (.goto (-80), 3) := by decide +kernel
theorem dX5_splits_100 : decode cX5_splits 100 = .ok (.iconst 0, 1) := by decide +kernel
theorem dX5_splits_101 : decode cX5_splits 101 = .ok (.istore 5, 2) := by decide +kernel
theorem dX5_splits_103 : decode cX5_splits 103 = .ok (.iload 5, 2) := by decide +kernel
theorem dX5_splits_105 : decode cX5_splits 105 = .ok (.iload 4, 2) := by decide +kernel
theorem dX5_splits_107 : decode cX5_splits 107 = .ok (.if_icmp .ge 23, 3) := by decide +kernel
theorem dX5_splits_110 : decode cX5_splits 110 = .ok (.aload_n 0, 1) := by decide +kernel
theorem dX5_splits_111 : decode cX5_splits 111 = .ok (.getfield 69, 3) := by decide +kernel
theorem dX5_splits_114 : decode cX5_splits 114 = .ok (.aload_n 0, 1) := by decide +kernel
theorem dX5_splits_115 : decode cX5_splits 115 = .ok (.iload_n 1, 1) := by decide +kernel
theorem dX5_splits_116 : decode cX5_splits 116 = .ok (.invokevirtual 135, 3) := by decide +kernel
theorem dX5_splits_119 : decode cX5_splits 119 = .ok (.dup2, 1) := by decide +kernel
theorem dX5_splits_120 : decode cX5_splits 120 = .ok (.iaload, 1) := by decide +kernel
theorem dX5_splits_121 : decode cX5_splits 121 = .ok (.iconst 1, 1) := by decide +kernel
theorem dX5_splits_122 : decode cX5_splits 122 = .ok (.iadd, 1) := by decide +kernel
theorem dX5_splits_123 : decode cX5_splits 123 = .ok (.iastore, 1) := by decide +kernel
theorem dX5_splits_124 : decode cX5_splits 124 = .ok (.iinc 5 1, 3) := by decide +kernel
theorem dX5_splits_127 : decode cX5_splits 127 = .ok (.goto (-24), 3) := by decide +kernel
theorem dX5_splits_130 : decode cX5_splits 130 = .ok (.return_, 1) := by decide +kernel
set_option maxRecDepth 20000 in
theorem ggX5_lineValue_X5_isLine : GoodIn wsX5_lineValue wsX5_isLine := goodIn_r _ [6, 7, 8, 9, 10, 5, 11, 12, 13, 14, 15, 53, 54, 55, 56, 57, 58, 59, 60, 61, 62, 63, 64, 65, 66, 67, 68, 69, 70, 71, 72, 73, 74, 75, 76, 77] (by decide +kernel) (by decide +kernel)
set_option maxRecDepth 20000 in
theorem gX5_lineValue_X5_isLine : GoodIn wsX5_lineValue (wsV RX5 117 RX5 yX5_isLine wsX5_isLine) := goodIn_app (goodIn_of _ (by decide +kernel)) ggX5_lineValue_X5_isLine
set_option maxRecDepth 20000 in
theorem ggX5_lineValue_X5_goes : GoodIn wsX5_lineValue wsX5_goes := goodIn_r _ [19, 20, 53, 54, 55, 56, 57, 58, 59, 60, 61, 62, 63, 64, 65, 66, 67, 68, 69, 70, 71, 72, 73, 74, 75, 76, 77] (by decide +kernel) (by decide +kernel)
set_option maxRecDepth 20000 in
theorem gX5_lineValue_X5_goes : GoodIn wsX5_lineValue (wsV RX5 91 RX5 yX5_goes wsX5_goes) := goodIn_app (goodIn_of _ (by decide +kernel)) ggX5_lineValue_X5_goes
set_option maxRecDepth 20000 in
theorem ggX5_lineValue_X5_isOpen : GoodIn wsX5_lineValue wsX5_isOpen := goodIn_r _ [24, 25, 53, 54, 55, 56, 57, 58, 59, 60, 61, 62, 63, 64, 65, 66, 67, 68, 69, 70, 71, 72, 73, 74, 75, 76, 77] (by decide +kernel) (by decide +kernel)
set_option maxRecDepth 20000 in
theorem gX5_lineValue_X5_isOpen : GoodIn wsX5_lineValue (wsV RX5 107 RX5 yX5_isOpen wsX5_isOpen) := goodIn_app (goodIn_of _ (by decide +kernel)) ggX5_lineValue_X5_isOpen
set_option maxRecDepth 20000 in
theorem ggX5_lineValue_X5_splits : GoodIn wsX5_lineValue wsX5_splits := goodIn_r _ [29, 7, 1, 30, 31, 32, 33, 5, 34, 35, 36, 37, 38, 39, 40, 41, 42, 43, 44, 45, 46, 47, 48, 49, 50, 51, 52, 53, 54, 55, 56, 57, 58, 59, 60, 61, 62, 63, 64, 65, 66, 67, 68, 69, 70, 71, 72, 73, 74, 75, 76, 77] (by decide +kernel) (by decide +kernel)
set_option maxRecDepth 20000 in
theorem gX5_lineValue_X5_splits : GoodIn wsX5_lineValue (wsV RX5 138 RX5 yX5_splits wsX5_splits) := goodIn_app (goodIn_of _ (by decide +kernel)) ggX5_lineValue_X5_splits
theorem dX5_lineValue_0 : decode cX5_lineValue 0 = .ok (.aload_n 0, 1) := by decide +kernel
theorem dX5_lineValue_1 : decode cX5_lineValue 1 = .ok (.aload_n 0, 1) := by decide +kernel
theorem dX5_lineValue_2 : decode cX5_lineValue 2 = .ok (.iload_n 1, 1) := by decide +kernel
theorem dX5_lineValue_3 : decode cX5_lineValue 3 = .ok (.iload_n 2, 1) := by decide +kernel
theorem dX5_lineValue_4 : decode cX5_lineValue 4 = .ok (.invokevirtual 117, 3) := by decide +kernel
theorem dX5_lineValue_7 : decode cX5_lineValue 7 = .ok (.ifCond .eq 7, 3) := by decide +kernel
theorem dX5_lineValue_10 : decode cX5_lineValue 10 = .ok (.iconst 0, 1) := by decide +kernel
theorem dX5_lineValue_11 : decode cX5_lineValue 11 = .ok (.goto 4, 3) := by decide +kernel
theorem dX5_lineValue_14 : decode cX5_lineValue 14 = .ok (.iconst 1, 1) := by decide +kernel
theorem dX5_lineValue_15 : decode cX5_lineValue 15 = .ok (.invokevirtual 91, 3) := by decide +kernel
theorem dX5_lineValue_18 : decode cX5_lineValue 18 = .ok (.ifCond .eq 11, 3) := by decide +kernel
theorem dX5_lineValue_21 : decode cX5_lineValue 21 = .ok (.aload_n 0, 1) := by decide +kernel
theorem dX5_lineValue_22 : decode cX5_lineValue 22 = .ok (.iload_n 1, 1) := by decide +kernel
theorem dX5_lineValue_23 : decode cX5_lineValue 23 = .ok (.invokevirtual 107, 3) := by decide +kernel
theorem dX5_lineValue_26 : decode cX5_lineValue 26 = .ok (.ifCond .eq 5, 3) := by decide +kernel
theorem dX5_lineValue_29 : decode cX5_lineValue 29 = .ok (.iconst 0, 1) := by decide +kernel
theorem dX5_lineValue_30 : decode cX5_lineValue 30 = .ok (.ireturn, 1) := by decide +kernel
theorem dX5_lineValue_31 : decode cX5_lineValue 31 = .ok (.aload_n 0, 1) := by decide +kernel
theorem dX5_lineValue_32 : decode cX5_lineValue 32 = .ok (.iload_n 1, 1) := by decide +kernel
theorem dX5_lineValue_33 : decode cX5_lineValue 33 = .ok (.invokevirtual 138, 3) := by decide +kernel
theorem dX5_lineValue_36 : decode cX5_lineValue 36 = .ok (.aload_n 0, 1) := by decide +kernel
theorem dX5_lineValue_37 : decode cX5_lineValue 37 = .ok (.getfield 69, 3) := by decide +kernel
theorem dX5_lineValue_40 : decode cX5_lineValue 40 = .ok (.iload_n 2, 1) := by decide +kernel
theorem dX5_lineValue_41 : decode cX5_lineValue 41 = .ok (.iaload, 1) := by decide +kernel
theorem dX5_lineValue_42 : decode cX5_lineValue 42 = .ok (.ireturn, 1) := by decide +kernel
theorem dX5_part_0 : decode cX5_part 0 = .ok (.iload_n 0, 1) := by decide +kernel
theorem dX5_part_1 : decode cX5_part 1 = .ok (.ifCond .lt 9, 3) := by decide +kernel
theorem dX5_part_4 : decode cX5_part 4 = .ok (.iload_n 0, 1) := by decide +kernel
theorem dX5_part_5 : decode cX5_part 5 = .ok (.iload_n 1, 1) := by decide +kernel
theorem dX5_part_6 : decode cX5_part 6 = .ok (.idiv, 1) := by decide +kernel
theorem dX5_part_7 : decode cX5_part 7 = .ok (.goto 11, 3) := by decide +kernel
theorem dX5_part_10 : decode cX5_part 10 = .ok (.iload_n 1, 1) := by decide +kernel
theorem dX5_part_11 : decode cX5_part 11 = .ok (.iconst 1, 1) := by decide +kernel
theorem dX5_part_12 : decode cX5_part 12 = .ok (.isub, 1) := by decide +kernel
theorem dX5_part_13 : decode cX5_part 13 = .ok (.iload_n 0, 1) := by decide +kernel
theorem dX5_part_14 : decode cX5_part 14 = .ok (.isub, 1) := by decide +kernel
theorem dX5_part_15 : decode cX5_part 15 = .ok (.iload_n 1, 1) := by decide +kernel
theorem dX5_part_16 : decode cX5_part 16 = .ok (.idiv, 1) := by decide +kernel
theorem dX5_part_17 : decode cX5_part 17 = .ok (.ineg, 1) := by decide +kernel
theorem dX5_part_18 : decode cX5_part 18 = .ok (.ireturn, 1) := by decide +kernel
set_option maxRecDepth 20000 in
theorem ggX5_worth_X5_part : GoodIn wsX5_worth wsX5_part := goodIn_r _ [8] (by decide +kernel) (by decide +kernel)
set_option maxRecDepth 20000 in
theorem gX5_worth_X5_part : GoodIn wsX5_worth (va_wsS RX5 143 yX5_part wsX5_part) := goodIn_app (goodIn_of _ (by decide +kernel)) ggX5_worth_X5_part
theorem dX5_worth_0 : decode cX5_worth 0 = .ok (.aload_n 0, 1) := by decide +kernel
theorem dX5_worth_1 : decode cX5_worth 1 = .ok (.getfield 7, 3) := by decide +kernel
theorem dX5_worth_4 : decode cX5_worth 4 = .ok (.iload_n 1, 1) := by decide +kernel
theorem dX5_worth_5 : decode cX5_worth 5 = .ok (.iaload, 1) := by decide +kernel
theorem dX5_worth_6 : decode cX5_worth 6 = .ok (.istore 4, 2) := by decide +kernel
theorem dX5_worth_8 : decode cX5_worth 8 = .ok (.bipush 80, 2) := by decide +kernel
theorem dX5_worth_10 : decode cX5_worth 10 = .ok (.iload 4, 2) := by decide +kernel
theorem dX5_worth_12 : decode cX5_worth 12 = .ok (.imul, 1) := by decide +kernel
theorem dX5_worth_13 : decode cX5_worth 13 = .ok (.bipush 100, 2) := by decide +kernel
theorem dX5_worth_15 : decode cX5_worth 15 = .ok (.aload_n 0, 1) := by decide +kernel
theorem dX5_worth_16 : decode cX5_worth 16 = .ok (.getfield 16, 3) := by decide +kernel
theorem dX5_worth_19 : decode cX5_worth 19 = .ok (.iload_n 1, 1) := by decide +kernel
theorem dX5_worth_20 : decode cX5_worth 20 = .ok (.iaload, 1) := by decide +kernel
theorem dX5_worth_21 : decode cX5_worth 21 = .ok (.imul, 1) := by decide +kernel
theorem dX5_worth_22 : decode cX5_worth 22 = .ok (.isub, 1) := by decide +kernel
theorem dX5_worth_23 : decode cX5_worth 23 = .ok (.istore 5, 2) := by decide +kernel
theorem dX5_worth_25 : decode cX5_worth 25 = .ok (.bipush 100, 2) := by decide +kernel
theorem dX5_worth_27 : decode cX5_worth 27 = .ok (.aload_n 0, 1) := by decide +kernel
theorem dX5_worth_28 : decode cX5_worth 28 = .ok (.getfield 13, 3) := by decide +kernel
theorem dX5_worth_31 : decode cX5_worth 31 = .ok (.iload_n 1, 1) := by decide +kernel
theorem dX5_worth_32 : decode cX5_worth 32 = .ok (.iaload, 1) := by decide +kernel
theorem dX5_worth_33 : decode cX5_worth 33 = .ok (.imul, 1) := by decide +kernel
theorem dX5_worth_34 : decode cX5_worth 34 = .ok (.istore 6, 2) := by decide +kernel
theorem dX5_worth_36 : decode cX5_worth 36 = .ok (.iload 5, 2) := by decide +kernel
theorem dX5_worth_38 : decode cX5_worth 38 = .ok (.iload 6, 2) := by decide +kernel
theorem dX5_worth_40 : decode cX5_worth 40 = .ok (.if_icmp .le 8, 3) := by decide +kernel
theorem dX5_worth_43 : decode cX5_worth 43 = .ok (.iload 5, 2) := by decide +kernel
theorem dX5_worth_45 : decode cX5_worth 45 = .ok (.goto 5, 3) := by decide +kernel
theorem dX5_worth_48 : decode cX5_worth 48 = .ok (.iload 6, 2) := by decide +kernel
theorem dX5_worth_50 : decode cX5_worth 50 = .ok (.istore 7, 2) := by decide +kernel
theorem dX5_worth_52 : decode cX5_worth 52 = .ok (.iload_n 2, 1) := by decide +kernel
theorem dX5_worth_53 : decode cX5_worth 53 = .ok (.ifCond .ne 18, 3) := by decide +kernel
theorem dX5_worth_56 : decode cX5_worth 56 = .ok (.iload_n 3, 1) := by decide +kernel
theorem dX5_worth_57 : decode cX5_worth 57 = .ok (.ifCond .ne 11, 3) := by decide +kernel
theorem dX5_worth_60 : decode cX5_worth 60 = .ok (.bipush 100, 2) := by decide +kernel
theorem dX5_worth_62 : decode cX5_worth 62 = .ok (.iload 4, 2) := by decide +kernel
theorem dX5_worth_64 : decode cX5_worth 64 = .ok (.imul, 1) := by decide +kernel
theorem dX5_worth_65 : decode cX5_worth 65 = .ok (.goto 5, 3) := by decide +kernel
theorem dX5_worth_68 : decode cX5_worth 68 = .ok (.ldc 142, 2) := by decide +kernel
theorem dX5_worth_70 : decode cX5_worth 70 = .ok (.ireturn, 1) := by decide +kernel
theorem dX5_worth_71 : decode cX5_worth 71 = .ok (.iload_n 2, 1) := by decide +kernel
theorem dX5_worth_72 : decode cX5_worth 72 = .ok (.iconst 1, 1) := by decide +kernel
theorem dX5_worth_73 : decode cX5_worth 73 = .ok (.if_icmp .ne 52, 3) := by decide +kernel
theorem dX5_worth_76 : decode cX5_worth 76 = .ok (.iload_n 3, 1) := by decide +kernel
theorem dX5_worth_77 : decode cX5_worth 77 = .ok (.ifCond .ne 11, 3) := by decide +kernel
theorem dX5_worth_80 : decode cX5_worth 80 = .ok (.bipush 46, 2) := by decide +kernel
theorem dX5_worth_82 : decode cX5_worth 82 = .ok (.iload 4, 2) := by decide +kernel
theorem dX5_worth_84 : decode cX5_worth 84 = .ok (.imul, 1) := by decide +kernel
theorem dX5_worth_85 : decode cX5_worth 85 = .ok (.goto 39, 3) := by decide +kernel
theorem dX5_worth_88 : decode cX5_worth 88 = .ok (.iload_n 3, 1) := by decide +kernel
theorem dX5_worth_89 : decode cX5_worth 89 = .ok (.iconst 1, 1) := by decide +kernel
theorem dX5_worth_90 : decode cX5_worth 90 = .ok (.if_icmp .ne 22, 3) := by decide +kernel
theorem dX5_worth_93 : decode cX5_worth 93 = .ok (.bipush 68, 2) := by decide +kernel
theorem dX5_worth_95 : decode cX5_worth 95 = .ok (.iload 4, 2) := by decide +kernel
theorem dX5_worth_97 : decode cX5_worth 97 = .ok (.imul, 1) := by decide +kernel
theorem dX5_worth_98 : decode cX5_worth 98 = .ok (.sipush 5000, 3) := by decide +kernel
theorem dX5_worth_101 : decode cX5_worth 101 = .ok (.isub, 1) := by decide +kernel
theorem dX5_worth_102 : decode cX5_worth 102 = .ok (.iload 7, 2) := by decide +kernel
theorem dX5_worth_104 : decode cX5_worth 104 = .ok (.iconst 5, 1) := by decide +kernel
theorem dX5_worth_105 : decode cX5_worth 105 = .ok (.invokestatic 143, 3) := by decide +kernel
theorem dX5_worth_108 : decode cX5_worth 108 = .ok (.iadd, 1) := by decide +kernel
theorem dX5_worth_109 : decode cX5_worth 109 = .ok (.goto 15, 3) := by decide +kernel
theorem dX5_worth_112 : decode cX5_worth 112 = .ok (.iload_n 3, 1) := by decide +kernel
theorem dX5_worth_113 : decode cX5_worth 113 = .ok (.iconst 3, 1) := by decide +kernel
theorem dX5_worth_114 : decode cX5_worth 114 = .ok (.if_icmp .ne 8, 3) := by decide +kernel
theorem dX5_worth_117 : decode cX5_worth 117 = .ok (.iload 6, 2) := by decide +kernel
theorem dX5_worth_119 : decode cX5_worth 119 = .ok (.goto 5, 3) := by decide +kernel
theorem dX5_worth_122 : decode cX5_worth 122 = .ok (.ldc 142, 2) := by decide +kernel
theorem dX5_worth_124 : decode cX5_worth 124 = .ok (.ireturn, 1) := by decide +kernel
theorem dX5_worth_125 : decode cX5_worth 125 = .ok (.iload_n 3, 1) := by decide +kernel
theorem dX5_worth_126 : decode cX5_worth 126 = .ok (.iconst 2, 1) := by decide +kernel
theorem dX5_worth_127 : decode cX5_worth 127 = .ok (.if_icmp .ne 8, 3) := by decide +kernel
theorem dX5_worth_130 : decode cX5_worth 130 = .ok (.iload 5, 2) := by decide +kernel
theorem dX5_worth_132 : decode cX5_worth 132 = .ok (.goto 33, 3) := by decide +kernel
theorem dX5_worth_135 : decode cX5_worth 135 = .ok (.iload_n 3, 1) := by decide +kernel
theorem dX5_worth_136 : decode cX5_worth 136 = .ok (.iconst 3, 1) := by decide +kernel
theorem dX5_worth_137 : decode cX5_worth 137 = .ok (.if_icmp .ne 8, 3) := by decide +kernel
theorem dX5_worth_140 : decode cX5_worth 140 = .ok (.iload 6, 2) := by decide +kernel
theorem dX5_worth_142 : decode cX5_worth 142 = .ok (.goto 23, 3) := by decide +kernel
theorem dX5_worth_145 : decode cX5_worth 145 = .ok (.iload_n 3, 1) := by decide +kernel
theorem dX5_worth_146 : decode cX5_worth 146 = .ok (.iconst 4, 1) := by decide +kernel
theorem dX5_worth_147 : decode cX5_worth 147 = .ok (.if_icmp .ne 16, 3) := by decide +kernel
theorem dX5_worth_150 : decode cX5_worth 150 = .ok (.iload_n 2, 1) := by decide +kernel
theorem dX5_worth_151 : decode cX5_worth 151 = .ok (.iconst 3, 1) := by decide +kernel
theorem dX5_worth_152 : decode cX5_worth 152 = .ok (.if_icmp .ne 11, 3) := by decide +kernel
theorem dX5_worth_155 : decode cX5_worth 155 = .ok (.bipush 60, 2) := by decide +kernel
theorem dX5_worth_157 : decode cX5_worth 157 = .ok (.iload 4, 2) := by decide +kernel
theorem dX5_worth_159 : decode cX5_worth 159 = .ok (.imul, 1) := by decide +kernel
theorem dX5_worth_160 : decode cX5_worth 160 = .ok (.goto 5, 3) := by decide +kernel
theorem dX5_worth_163 : decode cX5_worth 163 = .ok (.ldc 142, 2) := by decide +kernel
theorem dX5_worth_165 : decode cX5_worth 165 = .ok (.ireturn, 1) := by decide +kernel
set_option maxRecDepth 20000 in
theorem ggX5_best_X5_worth : GoodIn wsX5_best wsX5_worth := goodIn_r _ [5, 6, 7, 8, 9, 10, 11, 4, 12, 13, 14, 15, 16, 17, 18, 19, 20, 21, 22, 23, 24, 25, 26, 27, 28, 29, 30, 31, 32, 33, 34, 35, 36, 37] (by decide +kernel) (by decide +kernel)
set_option maxRecDepth 20000 in
theorem gX5_best_X5_worth : GoodIn wsX5_best (wsV RX5 146 RX5 yX5_worth wsX5_worth) := goodIn_app (goodIn_of _ (by decide +kernel)) ggX5_best_X5_worth
theorem dX5_best_0 : decode cX5_best 0 = .ok (.iconst 0, 1) := by decide +kernel
theorem dX5_best_1 : decode cX5_best 1 = .ok (.istore_n 3, 1) := by decide +kernel
theorem dX5_best_2 : decode cX5_best 2 = .ok (.iconst 1, 1) := by decide +kernel
theorem dX5_best_3 : decode cX5_best 3 = .ok (.istore 4, 2) := by decide +kernel
theorem dX5_best_5 : decode cX5_best 5 = .ok (.iload 4, 2) := by decide +kernel
theorem dX5_best_7 : decode cX5_best 7 = .ok (.iconst 4, 1) := by decide +kernel
theorem dX5_best_8 : decode cX5_best 8 = .ok (.if_icmp .gt 34, 3) := by decide +kernel
theorem dX5_best_11 : decode cX5_best 11 = .ok (.aload_n 0, 1) := by decide +kernel
theorem dX5_best_12 : decode cX5_best 12 = .ok (.iload_n 1, 1) := by decide +kernel
theorem dX5_best_13 : decode cX5_best 13 = .ok (.iload_n 2, 1) := by decide +kernel
theorem dX5_best_14 : decode cX5_best 14 = .ok (.iload 4, 2) := by decide +kernel
theorem dX5_best_16 : decode cX5_best 16 = .ok (.invokevirtual 146, 3) := by decide +kernel
theorem dX5_best_19 : decode cX5_best 19 = .ok (.aload_n 0, 1) := by decide +kernel
theorem dX5_best_20 : decode cX5_best 20 = .ok (.iload_n 1, 1) := by decide +kernel
theorem dX5_best_21 : decode cX5_best 21 = .ok (.iload_n 2, 1) := by decide +kernel
theorem dX5_best_22 : decode cX5_best 22 = .ok (.iload_n 3, 1) := by decide +kernel
theorem dX5_best_23 : decode cX5_best 23 = .ok (.invokevirtual 146, 3) := by decide +kernel
theorem dX5_best_26 : decode cX5_best 26 = .ok (.if_icmp .le 8, 3) := by decide +kernel
theorem dX5_best_29 : decode cX5_best 29 = .ok (.iload 4, 2) := by decide +kernel
theorem dX5_best_31 : decode cX5_best 31 = .ok (.goto 4, 3) := by decide +kernel
theorem dX5_best_34 : decode cX5_best 34 = .ok (.iload_n 3, 1) := by decide +kernel
theorem dX5_best_35 : decode cX5_best 35 = .ok (.istore_n 3, 1) := by decide +kernel
theorem dX5_best_36 : decode cX5_best 36 = .ok (.iinc 4 1, 3) := by decide +kernel
theorem dX5_best_39 : decode cX5_best 39 = .ok (.goto (-34), 3) := by decide +kernel
theorem dX5_best_42 : decode cX5_best 42 = .ok (.iload_n 3, 1) := by decide +kernel
theorem dX5_best_43 : decode cX5_best 43 = .ok (.ireturn, 1) := by decide +kernel
set_option maxRecDepth 20000 in
theorem ggX5_asksOption_X5_isTen : GoodIn wsX5_asksOption wsX5_isTen := goodIn_r _ [4, 5, 6, 3, 7] (by decide +kernel) (by decide +kernel)
set_option maxRecDepth 20000 in
theorem gX5_asksOption_X5_isTen : GoodIn wsX5_asksOption (va_wsS RX5 87 yX5_isTen wsX5_isTen) := goodIn_app (goodIn_of _ (by decide +kernel)) ggX5_asksOption_X5_isTen
set_option maxRecDepth 20000 in
theorem ggX5_asksOption_X5_isIn : GoodIn wsX5_asksOption wsX5_isIn := goodIn_r _ [7] (by decide +kernel) (by decide +kernel)
set_option maxRecDepth 20000 in
theorem gX5_asksOption_X5_isIn : GoodIn wsX5_asksOption (va_wsS RX5 76 yX5_isIn wsX5_isIn) := goodIn_app (goodIn_of _ (by decide +kernel)) ggX5_asksOption_X5_isIn
set_option maxRecDepth 20000 in
theorem ggX5_asksOption_X5_goes : GoodIn wsX5_asksOption wsX5_goes := goodIn_r _ [11, 12, 13, 14, 15, 16, 17, 18, 19, 20, 21, 22, 23, 24, 25, 26, 27, 28, 29, 30, 31, 32, 33, 34, 35, 36, 37] (by decide +kernel) (by decide +kernel)
set_option maxRecDepth 20000 in
theorem gX5_asksOption_X5_goes : GoodIn wsX5_asksOption (wsV RX5 91 RX5 yX5_goes wsX5_goes) := goodIn_app (goodIn_of _ (by decide +kernel)) ggX5_asksOption_X5_goes
theorem dX5_asksOption_0 : decode cX5_asksOption 0 = .ok (.aload_n 0, 1) := by decide +kernel
theorem dX5_asksOption_1 : decode cX5_asksOption 1 = .ok (.iload_n 1, 1) := by decide +kernel
theorem dX5_asksOption_2 : decode cX5_asksOption 2 = .ok (.invokestatic 87, 3) := by decide +kernel
theorem dX5_asksOption_5 : decode cX5_asksOption 5 = .ok (.ifCond .eq 16, 3) := by decide +kernel
theorem dX5_asksOption_8 : decode cX5_asksOption 8 = .ok (.iload_n 2, 1) := by decide +kernel
theorem dX5_asksOption_9 : decode cX5_asksOption 9 = .ok (.iconst 0, 1) := by decide +kernel
theorem dX5_asksOption_10 : decode cX5_asksOption 10 = .ok (.iconst 3, 1) := by decide +kernel
theorem dX5_asksOption_11 : decode cX5_asksOption 11 = .ok (.invokestatic 76, 3) := by decide +kernel
theorem dX5_asksOption_14 : decode cX5_asksOption 14 = .ok (.ifCond .eq 7, 3) := by decide +kernel
theorem dX5_asksOption_17 : decode cX5_asksOption 17 = .ok (.iconst 0, 1) := by decide +kernel
theorem dX5_asksOption_18 : decode cX5_asksOption 18 = .ok (.goto 4, 3) := by decide +kernel
theorem dX5_asksOption_21 : decode cX5_asksOption 21 = .ok (.iconst 1, 1) := by decide +kernel
theorem dX5_asksOption_22 : decode cX5_asksOption 22 = .ok (.invokevirtual 91, 3) := by decide +kernel
theorem dX5_asksOption_25 : decode cX5_asksOption 25 = .ok (.ireturn, 1) := by decide +kernel
set_option maxRecDepth 20000 in
theorem ggX5_bestOption_X5_asksOption : GoodIn wsX5_bestOption wsX5_asksOption := goodIn_r _ [5, 6, 7, 4, 8, 9, 10, 11, 12, 13, 14, 15, 16, 32, 33, 34, 35, 36, 37, 38, 39, 40, 41, 42, 43, 44, 45, 46, 47, 48, 49, 50, 51, 52, 53, 54, 55, 56] (by decide +kernel) (by decide +kernel)
set_option maxRecDepth 20000 in
theorem gX5_bestOption_X5_asksOption : GoodIn wsX5_bestOption (wsV RX5 149 RX5 yX5_asksOption wsX5_asksOption) := goodIn_app (goodIn_of _ (by decide +kernel)) ggX5_bestOption_X5_asksOption
set_option maxRecDepth 20000 in
theorem ggX5_bestOption_X5_best : GoodIn wsX5_bestOption wsX5_best := goodIn_r _ [20, 21, 22, 23, 4, 24, 25, 26, 27, 28, 29, 30, 31, 32, 33, 34, 35, 36, 37, 38, 39, 40, 41, 42, 43, 44, 45, 46, 47, 48, 49, 50, 51, 52, 53, 54, 55, 56] (by decide +kernel) (by decide +kernel)
set_option maxRecDepth 20000 in
theorem gX5_bestOption_X5_best : GoodIn wsX5_bestOption (wsV RX5 152 RX5 yX5_best wsX5_best) := goodIn_app (goodIn_of _ (by decide +kernel)) ggX5_bestOption_X5_best
theorem dX5_bestOption_0 : decode cX5_bestOption 0 = .ok (.aload_n 0, 1) := by decide +kernel
theorem dX5_bestOption_1 : decode cX5_bestOption 1 = .ok (.iload_n 1, 1) := by decide +kernel
theorem dX5_bestOption_2 : decode cX5_bestOption 2 = .ok (.iload_n 2, 1) := by decide +kernel
theorem dX5_bestOption_3 : decode cX5_bestOption 3 = .ok (.invokevirtual 149, 3) := by decide +kernel
theorem dX5_bestOption_6 : decode cX5_bestOption 6 = .ok (.ifCond .eq 12, 3) := by decide +kernel
theorem dX5_bestOption_9 : decode cX5_bestOption 9 = .ok (.aload_n 0, 1) := by decide +kernel
theorem dX5_bestOption_10 : decode cX5_bestOption 10 = .ok (.iload_n 1, 1) := by decide +kernel
theorem dX5_bestOption_11 : decode cX5_bestOption 11 = .ok (.iload_n 2, 1) := by decide +kernel
theorem dX5_bestOption_12 : decode cX5_bestOption 12 = .ok (.invokevirtual 152, 3) := by decide +kernel
theorem dX5_bestOption_15 : decode cX5_bestOption 15 = .ok (.goto 4, 3) := by decide +kernel
theorem dX5_bestOption_18 : decode cX5_bestOption 18 = .ok (.iconst 0, 1) := by decide +kernel
theorem dX5_bestOption_19 : decode cX5_bestOption 19 = .ok (.ireturn, 1) := by decide +kernel
set_option maxRecDepth 20000 in
theorem ggX5_bestWorth_X5_asksOption : GoodIn wsX5_bestWorth wsX5_asksOption := goodIn_r _ [5, 6, 7, 4, 8, 9, 10, 11, 12, 13, 14, 15, 16, 32, 33, 34, 35, 36, 37, 38, 39, 40, 41, 42, 43, 44, 45, 46, 47, 48, 49, 50, 51, 52, 53, 54, 55, 56] (by decide +kernel) (by decide +kernel)
set_option maxRecDepth 20000 in
theorem gX5_bestWorth_X5_asksOption : GoodIn wsX5_bestWorth (wsV RX5 149 RX5 yX5_asksOption wsX5_asksOption) := goodIn_app (goodIn_of _ (by decide +kernel)) ggX5_bestWorth_X5_asksOption
set_option maxRecDepth 20000 in
theorem ggX5_bestWorth_X5_best : GoodIn wsX5_bestWorth wsX5_best := goodIn_r _ [20, 21, 22, 23, 4, 24, 25, 26, 27, 28, 29, 30, 31, 32, 33, 34, 35, 36, 37, 38, 39, 40, 41, 42, 43, 44, 45, 46, 47, 48, 49, 50, 51, 52, 53, 54, 55, 56] (by decide +kernel) (by decide +kernel)
set_option maxRecDepth 20000 in
theorem gX5_bestWorth_X5_best : GoodIn wsX5_bestWorth (wsV RX5 152 RX5 yX5_best wsX5_best) := goodIn_app (goodIn_of _ (by decide +kernel)) ggX5_bestWorth_X5_best
set_option maxRecDepth 20000 in
theorem ggX5_bestWorth_X5_worth : GoodIn wsX5_bestWorth wsX5_worth := goodIn_r _ [24, 25, 26, 27, 28, 29, 30, 4, 31, 32, 33, 34, 35, 36, 37, 38, 39, 40, 41, 42, 43, 44, 45, 46, 47, 48, 49, 50, 51, 52, 53, 54, 55, 56] (by decide +kernel) (by decide +kernel)
set_option maxRecDepth 20000 in
theorem gX5_bestWorth_X5_worth : GoodIn wsX5_bestWorth (wsV RX5 146 RX5 yX5_worth wsX5_worth) := goodIn_app (goodIn_of _ (by decide +kernel)) ggX5_bestWorth_X5_worth
theorem dX5_bestWorth_0 : decode cX5_bestWorth 0 = .ok (.aload_n 0, 1) := by decide +kernel
theorem dX5_bestWorth_1 : decode cX5_bestWorth 1 = .ok (.iload_n 1, 1) := by decide +kernel
theorem dX5_bestWorth_2 : decode cX5_bestWorth 2 = .ok (.iload_n 2, 1) := by decide +kernel
theorem dX5_bestWorth_3 : decode cX5_bestWorth 3 = .ok (.invokevirtual 149, 3) := by decide +kernel
theorem dX5_bestWorth_6 : decode cX5_bestWorth 6 = .ok (.ifCond .eq 18, 3) := by decide +kernel
theorem dX5_bestWorth_9 : decode cX5_bestWorth 9 = .ok (.aload_n 0, 1) := by decide +kernel
theorem dX5_bestWorth_10 : decode cX5_bestWorth 10 = .ok (.iload_n 1, 1) := by decide +kernel
theorem dX5_bestWorth_11 : decode cX5_bestWorth 11 = .ok (.iload_n 2, 1) := by decide +kernel
theorem dX5_bestWorth_12 : decode cX5_bestWorth 12 = .ok (.aload_n 0, 1) := by decide +kernel
theorem dX5_bestWorth_13 : decode cX5_bestWorth 13 = .ok (.iload_n 1, 1) := by decide +kernel
theorem dX5_bestWorth_14 : decode cX5_bestWorth 14 = .ok (.iload_n 2, 1) := by decide +kernel
theorem dX5_bestWorth_15 : decode cX5_bestWorth 15 = .ok (.invokevirtual 152, 3) := by decide +kernel
theorem dX5_bestWorth_18 : decode cX5_bestWorth 18 = .ok (.invokevirtual 146, 3) := by decide +kernel
theorem dX5_bestWorth_21 : decode cX5_bestWorth 21 = .ok (.goto 4, 3) := by decide +kernel
theorem dX5_bestWorth_24 : decode cX5_bestWorth 24 = .ok (.iconst 0, 1) := by decide +kernel
theorem dX5_bestWorth_25 : decode cX5_bestWorth 25 = .ok (.ireturn, 1) := by decide +kernel
set_option maxRecDepth 20000 in
theorem ggX5_stock_X5_isTen : GoodIn wsX5_stock wsX5_isTen := goodIn_r _ [5, 6, 7, 4, 8] (by decide +kernel) (by decide +kernel)
set_option maxRecDepth 20000 in
theorem gX5_stock_X5_isTen : GoodIn wsX5_stock (va_wsS RX5 87 yX5_isTen wsX5_isTen) := goodIn_app (goodIn_of _ (by decide +kernel)) ggX5_stock_X5_isTen
set_option maxRecDepth 20000 in
theorem ggX5_stock_X5_isIn : GoodIn wsX5_stock wsX5_isIn := goodIn_r _ [8] (by decide +kernel) (by decide +kernel)
set_option maxRecDepth 20000 in
theorem gX5_stock_X5_isIn : GoodIn wsX5_stock (va_wsS RX5 76 yX5_isIn wsX5_isIn) := goodIn_app (goodIn_of _ (by decide +kernel)) ggX5_stock_X5_isIn
set_option maxRecDepth 20000 in
theorem ggX5_stock_X5_goes : GoodIn wsX5_stock wsX5_goes := goodIn_r _ [12, 13, 14, 15, 16, 17, 18, 19, 20, 21, 22, 23, 24, 25, 26, 27, 28, 29, 30, 31, 32, 33, 34, 35, 36, 37, 38] (by decide +kernel) (by decide +kernel)
set_option maxRecDepth 20000 in
theorem gX5_stock_X5_goes : GoodIn wsX5_stock (wsV RX5 91 RX5 yX5_goes wsX5_goes) := goodIn_app (goodIn_of _ (by decide +kernel)) ggX5_stock_X5_goes
theorem dX5_stock_0 : decode cX5_stock 0 = .ok (.aload_n 0, 1) := by decide +kernel
theorem dX5_stock_1 : decode cX5_stock 1 = .ok (.iload_n 1, 1) := by decide +kernel
theorem dX5_stock_2 : decode cX5_stock 2 = .ok (.invokestatic 87, 3) := by decide +kernel
theorem dX5_stock_5 : decode cX5_stock 5 = .ok (.ifCond .eq 16, 3) := by decide +kernel
theorem dX5_stock_8 : decode cX5_stock 8 = .ok (.iload_n 2, 1) := by decide +kernel
theorem dX5_stock_9 : decode cX5_stock 9 = .ok (.iconst 0, 1) := by decide +kernel
theorem dX5_stock_10 : decode cX5_stock 10 = .ok (.iconst 4, 1) := by decide +kernel
theorem dX5_stock_11 : decode cX5_stock 11 = .ok (.invokestatic 76, 3) := by decide +kernel
theorem dX5_stock_14 : decode cX5_stock 14 = .ok (.ifCond .eq 7, 3) := by decide +kernel
theorem dX5_stock_17 : decode cX5_stock 17 = .ok (.iconst 0, 1) := by decide +kernel
theorem dX5_stock_18 : decode cX5_stock 18 = .ok (.goto 4, 3) := by decide +kernel
theorem dX5_stock_21 : decode cX5_stock 21 = .ok (.iconst 1, 1) := by decide +kernel
theorem dX5_stock_22 : decode cX5_stock 22 = .ok (.invokevirtual 91, 3) := by decide +kernel
theorem dX5_stock_25 : decode cX5_stock 25 = .ok (.ifCond .eq 16, 3) := by decide +kernel
theorem dX5_stock_28 : decode cX5_stock 28 = .ok (.aload_n 0, 1) := by decide +kernel
theorem dX5_stock_29 : decode cX5_stock 29 = .ok (.getfield 19, 3) := by decide +kernel
theorem dX5_stock_32 : decode cX5_stock 32 = .ok (.iconst 5, 1) := by decide +kernel
theorem dX5_stock_33 : decode cX5_stock 33 = .ok (.iload_n 1, 1) := by decide +kernel
theorem dX5_stock_34 : decode cX5_stock 34 = .ok (.imul, 1) := by decide +kernel
theorem dX5_stock_35 : decode cX5_stock 35 = .ok (.iload_n 2, 1) := by decide +kernel
theorem dX5_stock_36 : decode cX5_stock 36 = .ok (.iadd, 1) := by decide +kernel
theorem dX5_stock_37 : decode cX5_stock 37 = .ok (.iaload, 1) := by decide +kernel
theorem dX5_stock_38 : decode cX5_stock 38 = .ok (.goto 4, 3) := by decide +kernel
theorem dX5_stock_41 : decode cX5_stock 41 = .ok (.iconst 0, 1) := by decide +kernel
theorem dX5_stock_42 : decode cX5_stock 42 = .ok (.ireturn, 1) := by decide +kernel
set_option maxRecDepth 20000 in
theorem ggX5_test_X5_isTen : GoodIn wsX5_test wsX5_isTen := goodIn_r _ [5, 6, 7, 4, 8] (by decide +kernel) (by decide +kernel)
set_option maxRecDepth 20000 in
theorem gX5_test_X5_isTen : GoodIn wsX5_test (va_wsS RX5 87 yX5_isTen wsX5_isTen) := goodIn_app (goodIn_of _ (by decide +kernel)) ggX5_test_X5_isTen
set_option maxRecDepth 20000 in
theorem ggX5_test_X5_goes : GoodIn wsX5_test wsX5_goes := goodIn_r _ [12, 13, 29, 30, 31, 32, 33, 34, 35, 36, 37, 38, 39, 40, 41, 42, 43, 44, 45, 46, 47, 48, 49, 50, 51, 52, 53] (by decide +kernel) (by decide +kernel)
set_option maxRecDepth 20000 in
theorem gX5_test_X5_goes : GoodIn wsX5_test (wsV RX5 91 RX5 yX5_goes wsX5_goes) := goodIn_app (goodIn_of _ (by decide +kernel)) ggX5_test_X5_goes
set_option maxRecDepth 20000 in
theorem ggX5_test_X5_best : GoodIn wsX5_test wsX5_best := goodIn_r _ [17, 18, 19, 20, 4, 21, 22, 23, 24, 25, 26, 27, 28, 29, 30, 31, 32, 33, 34, 35, 36, 37, 38, 39, 40, 41, 42, 43, 44, 45, 46, 47, 48, 49, 50, 51, 52, 53] (by decide +kernel) (by decide +kernel)
set_option maxRecDepth 20000 in
theorem gX5_test_X5_best : GoodIn wsX5_test (wsV RX5 152 RX5 yX5_best wsX5_best) := goodIn_app (goodIn_of _ (by decide +kernel)) ggX5_test_X5_best
theorem dX5_test_0 : decode cX5_test 0 = .ok (.aload_n 0, 1) := by decide +kernel
theorem dX5_test_1 : decode cX5_test 1 = .ok (.iload_n 1, 1) := by decide +kernel
theorem dX5_test_2 : decode cX5_test 2 = .ok (.invokestatic 87, 3) := by decide +kernel
theorem dX5_test_5 : decode cX5_test 5 = .ok (.ifCond .ne 7, 3) := by decide +kernel
theorem dX5_test_8 : decode cX5_test 8 = .ok (.iconst 1, 1) := by decide +kernel
theorem dX5_test_9 : decode cX5_test 9 = .ok (.goto 21, 3) := by decide +kernel
theorem dX5_test_12 : decode cX5_test 12 = .ok (.aload_n 0, 1) := by decide +kernel
theorem dX5_test_13 : decode cX5_test 13 = .ok (.getfield 19, 3) := by decide +kernel
theorem dX5_test_16 : decode cX5_test 16 = .ok (.iconst 5, 1) := by decide +kernel
theorem dX5_test_17 : decode cX5_test 17 = .ok (.iload_n 1, 1) := by decide +kernel
theorem dX5_test_18 : decode cX5_test 18 = .ok (.imul, 1) := by decide +kernel
theorem dX5_test_19 : decode cX5_test 19 = .ok (.iconst 1, 1) := by decide +kernel
theorem dX5_test_20 : decode cX5_test 20 = .ok (.iadd, 1) := by decide +kernel
theorem dX5_test_21 : decode cX5_test 21 = .ok (.iaload, 1) := by decide +kernel
theorem dX5_test_22 : decode cX5_test 22 = .ok (.ifCond .ne 7, 3) := by decide +kernel
theorem dX5_test_25 : decode cX5_test 25 = .ok (.iconst 2, 1) := by decide +kernel
theorem dX5_test_26 : decode cX5_test 26 = .ok (.goto 4, 3) := by decide +kernel
theorem dX5_test_29 : decode cX5_test 29 = .ok (.iconst 0, 1) := by decide +kernel
theorem dX5_test_30 : decode cX5_test 30 = .ok (.invokevirtual 91, 3) := by decide +kernel
theorem dX5_test_33 : decode cX5_test 33 = .ok (.ifCond .ne 5, 3) := by decide +kernel
theorem dX5_test_36 : decode cX5_test 36 = .ok (.iconst 0, 1) := by decide +kernel
theorem dX5_test_37 : decode cX5_test 37 = .ok (.ireturn, 1) := by decide +kernel
theorem dX5_test_38 : decode cX5_test 38 = .ok (.iload_n 2, 1) := by decide +kernel
theorem dX5_test_39 : decode cX5_test 39 = .ok (.ifCond .eq 7, 3) := by decide +kernel
theorem dX5_test_42 : decode cX5_test 42 = .ok (.iconst 0, 1) := by decide +kernel
theorem dX5_test_43 : decode cX5_test 43 = .ok (.goto 9, 3) := by decide +kernel
theorem dX5_test_46 : decode cX5_test 46 = .ok (.aload_n 0, 1) := by decide +kernel
theorem dX5_test_47 : decode cX5_test 47 = .ok (.iload_n 1, 1) := by decide +kernel
theorem dX5_test_48 : decode cX5_test 48 = .ok (.iconst 2, 1) := by decide +kernel
theorem dX5_test_49 : decode cX5_test 49 = .ok (.invokevirtual 152, 3) := by decide +kernel
theorem dX5_test_52 : decode cX5_test 52 = .ok (.istore_n 3, 1) := by decide +kernel
theorem dX5_test_53 : decode cX5_test 53 = .ok (.aload_n 0, 1) := by decide +kernel
theorem dX5_test_54 : decode cX5_test 54 = .ok (.getfield 19, 3) := by decide +kernel
theorem dX5_test_57 : decode cX5_test 57 = .ok (.iconst 5, 1) := by decide +kernel
theorem dX5_test_58 : decode cX5_test 58 = .ok (.iload_n 1, 1) := by decide +kernel
theorem dX5_test_59 : decode cX5_test 59 = .ok (.imul, 1) := by decide +kernel
theorem dX5_test_60 : decode cX5_test 60 = .ok (.iconst 1, 1) := by decide +kernel
theorem dX5_test_61 : decode cX5_test 61 = .ok (.iadd, 1) := by decide +kernel
theorem dX5_test_62 : decode cX5_test 62 = .ok (.dup2, 1) := by decide +kernel
theorem dX5_test_63 : decode cX5_test 63 = .ok (.iaload, 1) := by decide +kernel
theorem dX5_test_64 : decode cX5_test 64 = .ok (.iconst 1, 1) := by decide +kernel
theorem dX5_test_65 : decode cX5_test 65 = .ok (.isub, 1) := by decide +kernel
theorem dX5_test_66 : decode cX5_test 66 = .ok (.iastore, 1) := by decide +kernel
theorem dX5_test_67 : decode cX5_test 67 = .ok (.aload_n 0, 1) := by decide +kernel
theorem dX5_test_68 : decode cX5_test 68 = .ok (.getfield 19, 3) := by decide +kernel
theorem dX5_test_71 : decode cX5_test 71 = .ok (.iconst 5, 1) := by decide +kernel
theorem dX5_test_72 : decode cX5_test 72 = .ok (.iload_n 1, 1) := by decide +kernel
theorem dX5_test_73 : decode cX5_test 73 = .ok (.imul, 1) := by decide +kernel
theorem dX5_test_74 : decode cX5_test 74 = .ok (.iload_n 3, 1) := by decide +kernel
theorem dX5_test_75 : decode cX5_test 75 = .ok (.iadd, 1) := by decide +kernel
theorem dX5_test_76 : decode cX5_test 76 = .ok (.dup2, 1) := by decide +kernel
theorem dX5_test_77 : decode cX5_test 77 = .ok (.iaload, 1) := by decide +kernel
theorem dX5_test_78 : decode cX5_test 78 = .ok (.iconst 1, 1) := by decide +kernel
theorem dX5_test_79 : decode cX5_test 79 = .ok (.iadd, 1) := by decide +kernel
theorem dX5_test_80 : decode cX5_test 80 = .ok (.iastore, 1) := by decide +kernel
theorem dX5_test_81 : decode cX5_test 81 = .ok (.iload_n 3, 1) := by decide +kernel
theorem dX5_test_82 : decode cX5_test 82 = .ok (.ireturn, 1) := by decide +kernel
theorem dX5_scoreOf_0 : decode cX5_scoreOf 0 = .ok (.iconst 0, 1) := by decide +kernel
theorem dX5_scoreOf_1 : decode cX5_scoreOf 1 = .ok (.istore_n 2, 1) := by decide +kernel
theorem dX5_scoreOf_2 : decode cX5_scoreOf 2 = .ok (.iconst 0, 1) := by decide +kernel
theorem dX5_scoreOf_3 : decode cX5_scoreOf 3 = .ok (.istore_n 3, 1) := by decide +kernel
theorem dX5_scoreOf_4 : decode cX5_scoreOf 4 = .ok (.iload_n 3, 1) := by decide +kernel
theorem dX5_scoreOf_5 : decode cX5_scoreOf 5 = .ok (.aload_n 0, 1) := by decide +kernel
theorem dX5_scoreOf_6 : decode cX5_scoreOf 6 = .ok (.getfield 155, 3) := by decide +kernel
theorem dX5_scoreOf_9 : decode cX5_scoreOf 9 = .ok (.if_icmp .ge 117, 3) := by decide +kernel
theorem dX5_scoreOf_12 : decode cX5_scoreOf 12 = .ok (.aload_n 0, 1) := by decide +kernel
theorem dX5_scoreOf_13 : decode cX5_scoreOf 13 = .ok (.getfield 94, 3) := by decide +kernel
theorem dX5_scoreOf_16 : decode cX5_scoreOf 16 = .ok (.aload_n 0, 1) := by decide +kernel
theorem dX5_scoreOf_17 : decode cX5_scoreOf 17 = .ok (.getfield 55, 3) := by decide +kernel
theorem dX5_scoreOf_20 : decode cX5_scoreOf 20 = .ok (.iload_n 3, 1) := by decide +kernel
theorem dX5_scoreOf_21 : decode cX5_scoreOf 21 = .ok (.iaload, 1) := by decide +kernel
theorem dX5_scoreOf_22 : decode cX5_scoreOf 22 = .ok (.isub, 1) := by decide +kernel
theorem dX5_scoreOf_23 : decode cX5_scoreOf 23 = .ok (.istore 4, 2) := by decide +kernel
theorem dX5_scoreOf_25 : decode cX5_scoreOf 25 = .ok (.aload_n 0, 1) := by decide +kernel
theorem dX5_scoreOf_26 : decode cX5_scoreOf 26 = .ok (.getfield 52, 3) := by decide +kernel
theorem dX5_scoreOf_29 : decode cX5_scoreOf 29 = .ok (.iload_n 3, 1) := by decide +kernel
theorem dX5_scoreOf_30 : decode cX5_scoreOf 30 = .ok (.iaload, 1) := by decide +kernel
theorem dX5_scoreOf_31 : decode cX5_scoreOf 31 = .ok (.iload_n 1, 1) := by decide +kernel
theorem dX5_scoreOf_32 : decode cX5_scoreOf 32 = .ok (.if_icmp .ne 7, 3) := by decide +kernel
theorem dX5_scoreOf_35 : decode cX5_scoreOf 35 = .ok (.iconst 1, 1) := by decide +kernel
theorem dX5_scoreOf_36 : decode cX5_scoreOf 36 = .ok (.goto 4, 3) := by decide +kernel
theorem dX5_scoreOf_39 : decode cX5_scoreOf 39 = .ok (.iconst 0, 1) := by decide +kernel
theorem dX5_scoreOf_40 : decode cX5_scoreOf 40 = .ok (.istore 5, 2) := by decide +kernel
theorem dX5_scoreOf_42 : decode cX5_scoreOf 42 = .ok (.iload_n 2, 1) := by decide +kernel
theorem dX5_scoreOf_43 : decode cX5_scoreOf 43 = .ok (.iload 5, 2) := by decide +kernel
theorem dX5_scoreOf_45 : decode cX5_scoreOf 45 = .ok (.ifCond .eq 22, 3) := by decide +kernel
theorem dX5_scoreOf_48 : decode cX5_scoreOf 48 = .ok (.iload 4, 2) := by decide +kernel
theorem dX5_scoreOf_50 : decode cX5_scoreOf 50 = .ok (.bipush 30, 2) := by decide +kernel
theorem dX5_scoreOf_52 : decode cX5_scoreOf 52 = .ok (.if_icmp .ge 15, 3) := by decide +kernel
theorem dX5_scoreOf_55 : decode cX5_scoreOf 55 = .ok (.bipush 10, 2) := by decide +kernel
theorem dX5_scoreOf_57 : decode cX5_scoreOf 57 = .ok (.aload_n 0, 1) := by decide +kernel
theorem dX5_scoreOf_58 : decode cX5_scoreOf 58 = .ok (.getfield 58, 3) := by decide +kernel
theorem dX5_scoreOf_61 : decode cX5_scoreOf 61 = .ok (.iload_n 3, 1) := by decide +kernel
theorem dX5_scoreOf_62 : decode cX5_scoreOf 62 = .ok (.iaload, 1) := by decide +kernel
theorem dX5_scoreOf_63 : decode cX5_scoreOf 63 = .ok (.imul, 1) := by decide +kernel
theorem dX5_scoreOf_64 : decode cX5_scoreOf 64 = .ok (.goto 4, 3) := by decide +kernel
theorem dX5_scoreOf_67 : decode cX5_scoreOf 67 = .ok (.iconst 0, 1) := by decide +kernel
theorem dX5_scoreOf_68 : decode cX5_scoreOf 68 = .ok (.iadd, 1) := by decide +kernel
theorem dX5_scoreOf_69 : decode cX5_scoreOf 69 = .ok (.istore_n 2, 1) := by decide +kernel
theorem dX5_scoreOf_70 : decode cX5_scoreOf 70 = .ok (.iload_n 2, 1) := by decide +kernel
theorem dX5_scoreOf_71 : decode cX5_scoreOf 71 = .ok (.iload 5, 2) := by decide +kernel
theorem dX5_scoreOf_73 : decode cX5_scoreOf 73 = .ok (.ifCond .eq 14, 3) := by decide +kernel
theorem dX5_scoreOf_76 : decode cX5_scoreOf 76 = .ok (.iload 4, 2) := by decide +kernel
theorem dX5_scoreOf_78 : decode cX5_scoreOf 78 = .ok (.bipush 90, 2) := by decide +kernel
theorem dX5_scoreOf_80 : decode cX5_scoreOf 80 = .ok (.if_icmp .ge 7, 3) := by decide +kernel
theorem dX5_scoreOf_83 : decode cX5_scoreOf 83 = .ok (.iconst 5, 1) := by decide +kernel
theorem dX5_scoreOf_84 : decode cX5_scoreOf 84 = .ok (.goto 4, 3) := by decide +kernel
theorem dX5_scoreOf_87 : decode cX5_scoreOf 87 = .ok (.iconst 0, 1) := by decide +kernel
theorem dX5_scoreOf_88 : decode cX5_scoreOf 88 = .ok (.iadd, 1) := by decide +kernel
theorem dX5_scoreOf_89 : decode cX5_scoreOf 89 = .ok (.istore_n 2, 1) := by decide +kernel
theorem dX5_scoreOf_90 : decode cX5_scoreOf 90 = .ok (.iload_n 2, 1) := by decide +kernel
theorem dX5_scoreOf_91 : decode cX5_scoreOf 91 = .ok (.iload 5, 2) := by decide +kernel
theorem dX5_scoreOf_93 : decode cX5_scoreOf 93 = .ok (.ifCond .eq 24, 3) := by decide +kernel
theorem dX5_scoreOf_96 : decode cX5_scoreOf 96 = .ok (.iload 4, 2) := by decide +kernel
theorem dX5_scoreOf_98 : decode cX5_scoreOf 98 = .ok (.bipush 90, 2) := by decide +kernel
theorem dX5_scoreOf_100 : decode cX5_scoreOf 100 = .ok (.if_icmp .ge 17, 3) := by decide +kernel
theorem dX5_scoreOf_103 : decode cX5_scoreOf 103 = .ok (.aload_n 0, 1) := by decide +kernel
theorem dX5_scoreOf_104 : decode cX5_scoreOf 104 = .ok (.getfield 61, 3) := by decide +kernel
theorem dX5_scoreOf_107 : decode cX5_scoreOf 107 = .ok (.iload_n 3, 1) := by decide +kernel
theorem dX5_scoreOf_108 : decode cX5_scoreOf 108 = .ok (.baload, 1) := by decide +kernel
theorem dX5_scoreOf_109 : decode cX5_scoreOf 109 = .ok (.ifCond .eq 8, 3) := by decide +kernel
theorem dX5_scoreOf_112 : decode cX5_scoreOf 112 = .ok (.bipush 20, 2) := by decide +kernel
theorem dX5_scoreOf_114 : decode cX5_scoreOf 114 = .ok (.goto 4, 3) := by decide +kernel
theorem dX5_scoreOf_117 : decode cX5_scoreOf 117 = .ok (.iconst 0, 1) := by decide +kernel
theorem dX5_scoreOf_118 : decode cX5_scoreOf 118 = .ok (.iadd, 1) := by decide +kernel
theorem dX5_scoreOf_119 : decode cX5_scoreOf 119 = .ok (.istore_n 2, 1) := by decide +kernel
theorem dX5_scoreOf_120 : decode cX5_scoreOf 120 = .ok (.iinc 3 1, 3) := by decide +kernel
theorem dX5_scoreOf_123 : decode cX5_scoreOf 123 = .ok (.goto (-119), 3) := by decide +kernel
theorem dX5_scoreOf_126 : decode cX5_scoreOf 126 = .ok (.iload_n 2, 1) := by decide +kernel
theorem dX5_scoreOf_127 : decode cX5_scoreOf 127 = .ok (.ireturn, 1) := by decide +kernel
set_option maxRecDepth 20000 in
theorem ggX5_score_X5_isTen : GoodIn wsX5_score wsX5_isTen := goodIn_r _ [4, 5, 6, 3, 7] (by decide +kernel) (by decide +kernel)
set_option maxRecDepth 20000 in
theorem gX5_score_X5_isTen : GoodIn wsX5_score (va_wsS RX5 87 yX5_isTen wsX5_isTen) := goodIn_app (goodIn_of _ (by decide +kernel)) ggX5_score_X5_isTen
set_option maxRecDepth 20000 in
theorem ggX5_score_X5_goes : GoodIn wsX5_score wsX5_goes := goodIn_r _ [11, 12, 23, 24, 25, 26, 27, 28, 29, 30, 31, 32, 33, 34, 35, 36, 37, 38, 39, 40, 41, 42, 43, 44, 45, 46, 47] (by decide +kernel) (by decide +kernel)
set_option maxRecDepth 20000 in
theorem gX5_score_X5_goes : GoodIn wsX5_score (wsV RX5 91 RX5 yX5_goes wsX5_goes) := goodIn_app (goodIn_of _ (by decide +kernel)) ggX5_score_X5_goes
set_option maxRecDepth 20000 in
theorem ggX5_score_X5_scoreOf : GoodIn wsX5_score wsX5_scoreOf := goodIn_r _ [16, 17, 18, 19, 20, 21, 22, 23, 24, 25, 26, 27, 28, 29, 30, 31, 32, 33, 34, 35, 36, 37, 38, 39, 40, 41, 42, 43, 44, 45, 46, 47] (by decide +kernel) (by decide +kernel)
set_option maxRecDepth 20000 in
theorem gX5_score_X5_scoreOf : GoodIn wsX5_score (wsV RX5 158 RX5 yX5_scoreOf wsX5_scoreOf) := goodIn_app (goodIn_of _ (by decide +kernel)) ggX5_score_X5_scoreOf
theorem dX5_score_0 : decode cX5_score 0 = .ok (.aload_n 0, 1) := by decide +kernel
theorem dX5_score_1 : decode cX5_score 1 = .ok (.iload_n 1, 1) := by decide +kernel
theorem dX5_score_2 : decode cX5_score 2 = .ok (.invokestatic 87, 3) := by decide +kernel
theorem dX5_score_5 : decode cX5_score 5 = .ok (.ifCond .eq 7, 3) := by decide +kernel
theorem dX5_score_8 : decode cX5_score 8 = .ok (.iconst 0, 1) := by decide +kernel
theorem dX5_score_9 : decode cX5_score 9 = .ok (.goto 4, 3) := by decide +kernel
theorem dX5_score_12 : decode cX5_score 12 = .ok (.iconst 1, 1) := by decide +kernel
theorem dX5_score_13 : decode cX5_score 13 = .ok (.invokevirtual 91, 3) := by decide +kernel
theorem dX5_score_16 : decode cX5_score 16 = .ok (.ifCond .eq 11, 3) := by decide +kernel
theorem dX5_score_19 : decode cX5_score 19 = .ok (.aload_n 0, 1) := by decide +kernel
theorem dX5_score_20 : decode cX5_score 20 = .ok (.iload_n 1, 1) := by decide +kernel
theorem dX5_score_21 : decode cX5_score 21 = .ok (.invokevirtual 158, 3) := by decide +kernel
theorem dX5_score_24 : decode cX5_score 24 = .ok (.goto 4, 3) := by decide +kernel
theorem dX5_score_27 : decode cX5_score 27 = .ok (.iconst 0, 1) := by decide +kernel
theorem dX5_score_28 : decode cX5_score 28 = .ok (.ireturn, 1) := by decide +kernel
theorem dX5_age_0 : decode cX5_age 0 = .ok (.aload_n 0, 1) := by decide +kernel
theorem dX5_age_1 : decode cX5_age 1 = .ok (.getfield 94, 3) := by decide +kernel
theorem dX5_age_4 : decode cX5_age 4 = .ok (.aload_n 0, 1) := by decide +kernel
theorem dX5_age_5 : decode cX5_age 5 = .ok (.getfield 28, 3) := by decide +kernel
theorem dX5_age_8 : decode cX5_age 8 = .ok (.aload_n 0, 1) := by decide +kernel
theorem dX5_age_9 : decode cX5_age 9 = .ok (.getfield 37, 3) := by decide +kernel
theorem dX5_age_12 : decode cX5_age 12 = .ok (.iload_n 1, 1) := by decide +kernel
theorem dX5_age_13 : decode cX5_age 13 = .ok (.iaload, 1) := by decide +kernel
theorem dX5_age_14 : decode cX5_age 14 = .ok (.iaload, 1) := by decide +kernel
theorem dX5_age_15 : decode cX5_age 15 = .ok (.isub, 1) := by decide +kernel
theorem dX5_age_16 : decode cX5_age 16 = .ok (.ireturn, 1) := by decide +kernel
set_option maxRecDepth 20000 in
theorem ggX5_wrong_X5_isLine : GoodIn wsX5_wrong wsX5_isLine := goodIn_r _ [6, 7, 8, 9, 10, 5, 11, 12, 13, 14, 15, 27, 28, 29, 30, 31, 32, 33, 34, 35, 36, 37, 38, 39, 40, 41, 42, 43, 44, 45, 46, 47, 48, 49, 50, 51] (by decide +kernel) (by decide +kernel)
set_option maxRecDepth 20000 in
theorem gX5_wrong_X5_isLine : GoodIn wsX5_wrong (wsV RX5 117 RX5 yX5_isLine wsX5_isLine) := goodIn_app (goodIn_of _ (by decide +kernel)) ggX5_wrong_X5_isLine
set_option maxRecDepth 20000 in
theorem ggX5_wrong_X5_isIn : GoodIn wsX5_wrong wsX5_isIn := goodIn_r _ [15] (by decide +kernel) (by decide +kernel)
set_option maxRecDepth 20000 in
theorem gX5_wrong_X5_isIn : GoodIn wsX5_wrong (va_wsS RX5 76 yX5_isIn wsX5_isIn) := goodIn_app (goodIn_of _ (by decide +kernel)) ggX5_wrong_X5_isIn
set_option maxRecDepth 20000 in
theorem ggX5_wrong_X5_isOpen : GoodIn wsX5_wrong wsX5_isOpen := goodIn_r _ [19, 20, 27, 28, 29, 30, 31, 32, 33, 34, 35, 36, 37, 38, 39, 40, 41, 42, 43, 44, 45, 46, 47, 48, 49, 50, 51] (by decide +kernel) (by decide +kernel)
set_option maxRecDepth 20000 in
theorem gX5_wrong_X5_isOpen : GoodIn wsX5_wrong (wsV RX5 107 RX5 yX5_isOpen wsX5_isOpen) := goodIn_app (goodIn_of _ (by decide +kernel)) ggX5_wrong_X5_isOpen
set_option maxRecDepth 20000 in
theorem ggX5_wrong_X5_age : GoodIn wsX5_wrong wsX5_age := goodIn_r _ [24, 25, 20, 26, 27, 28, 29, 30, 31, 32, 33, 34, 35, 36, 37, 38, 39, 40, 41, 42, 43, 44, 45, 46, 47, 48, 49, 50, 51] (by decide +kernel) (by decide +kernel)
set_option maxRecDepth 20000 in
theorem gX5_wrong_X5_age : GoodIn wsX5_wrong (wsV RX5 161 RX5 yX5_age wsX5_age) := goodIn_app (goodIn_of _ (by decide +kernel)) ggX5_wrong_X5_age
theorem dX5_wrong_0 : decode cX5_wrong 0 = .ok (.aload_n 0, 1) := by decide +kernel
theorem dX5_wrong_1 : decode cX5_wrong 1 = .ok (.iload_n 1, 1) := by decide +kernel
theorem dX5_wrong_2 : decode cX5_wrong 2 = .ok (.iload_n 2, 1) := by decide +kernel
theorem dX5_wrong_3 : decode cX5_wrong 3 = .ok (.invokevirtual 117, 3) := by decide +kernel
theorem dX5_wrong_6 : decode cX5_wrong 6 = .ok (.ifCond .ne 5, 3) := by decide +kernel
theorem dX5_wrong_9 : decode cX5_wrong 9 = .ok (.iconst 1, 1) := by decide +kernel
theorem dX5_wrong_10 : decode cX5_wrong 10 = .ok (.ireturn, 1) := by decide +kernel
theorem dX5_wrong_11 : decode cX5_wrong 11 = .ok (.iload_n 3, 1) := by decide +kernel
theorem dX5_wrong_12 : decode cX5_wrong 12 = .ok (.iconst 1, 1) := by decide +kernel
theorem dX5_wrong_13 : decode cX5_wrong 13 = .ok (.bipush 20, 2) := by decide +kernel
theorem dX5_wrong_15 : decode cX5_wrong 15 = .ok (.invokestatic 76, 3) := by decide +kernel
theorem dX5_wrong_18 : decode cX5_wrong 18 = .ok (.ifCond .eq 13, 3) := by decide +kernel
theorem dX5_wrong_21 : decode cX5_wrong 21 = .ok (.iload 4, 2) := by decide +kernel
theorem dX5_wrong_23 : decode cX5_wrong 23 = .ok (.iconst 0, 1) := by decide +kernel
theorem dX5_wrong_24 : decode cX5_wrong 24 = .ok (.iconst 3, 1) := by decide +kernel
theorem dX5_wrong_25 : decode cX5_wrong 25 = .ok (.invokestatic 76, 3) := by decide +kernel
theorem dX5_wrong_28 : decode cX5_wrong 28 = .ok (.ifCond .ne 5, 3) := by decide +kernel
theorem dX5_wrong_31 : decode cX5_wrong 31 = .ok (.iconst 2, 1) := by decide +kernel
theorem dX5_wrong_32 : decode cX5_wrong 32 = .ok (.ireturn, 1) := by decide +kernel
theorem dX5_wrong_33 : decode cX5_wrong 33 = .ok (.aload_n 0, 1) := by decide +kernel
theorem dX5_wrong_34 : decode cX5_wrong 34 = .ok (.iload_n 1, 1) := by decide +kernel
theorem dX5_wrong_35 : decode cX5_wrong 35 = .ok (.invokevirtual 107, 3) := by decide +kernel
theorem dX5_wrong_38 : decode cX5_wrong 38 = .ok (.ifCond .ne 28, 3) := by decide +kernel
theorem dX5_wrong_41 : decode cX5_wrong 41 = .ok (.aload_n 0, 1) := by decide +kernel
theorem dX5_wrong_42 : decode cX5_wrong 42 = .ok (.iload_n 1, 1) := by decide +kernel
theorem dX5_wrong_43 : decode cX5_wrong 43 = .ok (.invokevirtual 161, 3) := by decide +kernel
theorem dX5_wrong_46 : decode cX5_wrong 46 = .ok (.bipush 60, 2) := by decide +kernel
theorem dX5_wrong_48 : decode cX5_wrong 48 = .ok (.if_icmp .gt 18, 3) := by decide +kernel
theorem dX5_wrong_51 : decode cX5_wrong 51 = .ok (.aload_n 0, 1) := by decide +kernel
theorem dX5_wrong_52 : decode cX5_wrong 52 = .ok (.getfield 49, 3) := by decide +kernel
theorem dX5_wrong_55 : decode cX5_wrong 55 = .ok (.bipush 6, 2) := by decide +kernel
theorem dX5_wrong_57 : decode cX5_wrong 57 = .ok (.iload_n 1, 1) := by decide +kernel
theorem dX5_wrong_58 : decode cX5_wrong 58 = .ok (.imul, 1) := by decide +kernel
theorem dX5_wrong_59 : decode cX5_wrong 59 = .ok (.iload_n 2, 1) := by decide +kernel
theorem dX5_wrong_60 : decode cX5_wrong 60 = .ok (.iadd, 1) := by decide +kernel
theorem dX5_wrong_61 : decode cX5_wrong 61 = .ok (.iaload, 1) := by decide +kernel
theorem dX5_wrong_62 : decode cX5_wrong 62 = .ok (.iload_n 3, 1) := by decide +kernel
theorem dX5_wrong_63 : decode cX5_wrong 63 = .ok (.if_icmp .ge 7, 3) := by decide +kernel
theorem dX5_wrong_66 : decode cX5_wrong 66 = .ok (.iconst 3, 1) := by decide +kernel
theorem dX5_wrong_67 : decode cX5_wrong 67 = .ok (.goto 4, 3) := by decide +kernel
theorem dX5_wrong_70 : decode cX5_wrong 70 = .ok (.iconst 0, 1) := by decide +kernel
theorem dX5_wrong_71 : decode cX5_wrong 71 = .ok (.ireturn, 1) := by decide +kernel
set_option maxRecDepth 20000 in
theorem ggX5_release_X5_goods : GoodIn wsX5_release wsX5_goods := goodIn_r _ [8, 9, 10, 11, 12, 7, 13, 3, 14, 22, 23, 24, 25, 26, 27, 28, 29, 30, 31, 32, 33, 34, 35, 36, 37, 38, 39, 40, 41, 42, 43, 44, 45, 46] (by decide +kernel) (by decide +kernel)
set_option maxRecDepth 20000 in
theorem gX5_release_X5_goods : GoodIn wsX5_release (wsV RX5 97 RX5 yX5_goods wsX5_goods) := goodIn_app (goodIn_of _ (by decide +kernel)) ggX5_release_X5_goods
set_option maxRecDepth 20000 in
theorem ggX5_release_X5_net : GoodIn wsX5_release wsX5_net := goodIn_r _ [17, 18, 19, 20, 21] (by decide +kernel) (by decide +kernel)
set_option maxRecDepth 20000 in
theorem gX5_release_X5_net : GoodIn wsX5_release (va_wsS RX5 101 yX5_net wsX5_net) := goodIn_app (goodIn_of _ (by decide +kernel)) ggX5_release_X5_net
theorem dX5_release_0 : decode cX5_release 0 = .ok (.aload_n 0, 1) := by decide +kernel
theorem dX5_release_1 : decode cX5_release 1 = .ok (.getfield 31, 3) := by decide +kernel
theorem dX5_release_4 : decode cX5_release 4 = .ok (.iload_n 1, 1) := by decide +kernel
theorem dX5_release_5 : decode cX5_release 5 = .ok (.iaload, 1) := by decide +kernel
theorem dX5_release_6 : decode cX5_release 6 = .ok (.aload_n 0, 1) := by decide +kernel
theorem dX5_release_7 : decode cX5_release 7 = .ok (.getfield 34, 3) := by decide +kernel
theorem dX5_release_10 : decode cX5_release 10 = .ok (.iload_n 1, 1) := by decide +kernel
theorem dX5_release_11 : decode cX5_release 11 = .ok (.iaload, 1) := by decide +kernel
theorem dX5_release_12 : decode cX5_release 12 = .ok (.isub, 1) := by decide +kernel
theorem dX5_release_13 : decode cX5_release 13 = .ok (.aload_n 0, 1) := by decide +kernel
theorem dX5_release_14 : decode cX5_release 14 = .ok (.iload_n 1, 1) := by decide +kernel
theorem dX5_release_15 : decode cX5_release 15 = .ok (.invokevirtual 97, 3) := by decide +kernel
theorem dX5_release_18 : decode cX5_release 18 = .ok (.iload_n 3, 1) := by decide +kernel
theorem dX5_release_19 : decode cX5_release 19 = .ok (.aload_n 0, 1) := by decide +kernel
theorem dX5_release_20 : decode cX5_release 20 = .ok (.getfield 46, 3) := by decide +kernel
theorem dX5_release_23 : decode cX5_release 23 = .ok (.bipush 6, 2) := by decide +kernel
theorem dX5_release_25 : decode cX5_release 25 = .ok (.iload_n 1, 1) := by decide +kernel
theorem dX5_release_26 : decode cX5_release 26 = .ok (.imul, 1) := by decide +kernel
theorem dX5_release_27 : decode cX5_release 27 = .ok (.iload_n 2, 1) := by decide +kernel
theorem dX5_release_28 : decode cX5_release 28 = .ok (.iadd, 1) := by decide +kernel
theorem dX5_release_29 : decode cX5_release 29 = .ok (.iaload, 1) := by decide +kernel
theorem dX5_release_30 : decode cX5_release 30 = .ok (.imul, 1) := by decide +kernel
theorem dX5_release_31 : decode cX5_release 31 = .ok (.isub, 1) := by decide +kernel
theorem dX5_release_32 : decode cX5_release 32 = .ok (.invokestatic 101, 3) := by decide +kernel
theorem dX5_release_35 : decode cX5_release 35 = .ok (.isub, 1) := by decide +kernel
theorem dX5_release_36 : decode cX5_release 36 = .ok (.istore 4, 2) := by decide +kernel
theorem dX5_release_38 : decode cX5_release 38 = .ok (.iload 4, 2) := by decide +kernel
theorem dX5_release_40 : decode cX5_release 40 = .ok (.ifCond .le 8, 3) := by decide +kernel
theorem dX5_release_43 : decode cX5_release 43 = .ok (.iload 4, 2) := by decide +kernel
theorem dX5_release_45 : decode cX5_release 45 = .ok (.goto 4, 3) := by decide +kernel
theorem dX5_release_48 : decode cX5_release 48 = .ok (.iconst 0, 1) := by decide +kernel
theorem dX5_release_49 : decode cX5_release 49 = .ok (.ireturn, 1) := by decide +kernel
set_option maxRecDepth 20000 in
theorem ggX5_fee_X5_age : GoodIn wsX5_fee wsX5_age := goodIn_r _ [6, 7, 8, 9, 10, 11, 12, 13, 14, 15, 16, 17, 18, 19, 20, 21, 22, 23, 24, 25, 26, 27, 28, 29, 30, 31, 32, 33, 34] (by decide +kernel) (by decide +kernel)
set_option maxRecDepth 20000 in
theorem gX5_fee_X5_age : GoodIn wsX5_fee (wsV RX5 161 RX5 yX5_age wsX5_age) := goodIn_app (goodIn_of _ (by decide +kernel)) ggX5_fee_X5_age
theorem dX5_fee_0 : decode cX5_fee 0 = .ok (.iload_n 3, 1) := by decide +kernel
theorem dX5_fee_1 : decode cX5_fee 1 = .ok (.iconst 3, 1) := by decide +kernel
theorem dX5_fee_2 : decode cX5_fee 2 = .ok (.if_icmp .eq 13, 3) := by decide +kernel
theorem dX5_fee_5 : decode cX5_fee 5 = .ok (.aload_n 0, 1) := by decide +kernel
theorem dX5_fee_6 : decode cX5_fee 6 = .ok (.iload_n 1, 1) := by decide +kernel
theorem dX5_fee_7 : decode cX5_fee 7 = .ok (.invokevirtual 161, 3) := by decide +kernel
theorem dX5_fee_10 : decode cX5_fee 10 = .ok (.bipush 14, 2) := by decide +kernel
theorem dX5_fee_12 : decode cX5_fee 12 = .ok (.if_icmp .gt 7, 3) := by decide +kernel
theorem dX5_fee_15 : decode cX5_fee 15 = .ok (.iconst 0, 1) := by decide +kernel
theorem dX5_fee_16 : decode cX5_fee 16 = .ok (.goto 20, 3) := by decide +kernel
theorem dX5_fee_19 : decode cX5_fee 19 = .ok (.aload_n 0, 1) := by decide +kernel
theorem dX5_fee_20 : decode cX5_fee 20 = .ok (.iload_n 1, 1) := by decide +kernel
theorem dX5_fee_21 : decode cX5_fee 21 = .ok (.invokevirtual 161, 3) := by decide +kernel
theorem dX5_fee_24 : decode cX5_fee 24 = .ok (.bipush 30, 2) := by decide +kernel
theorem dX5_fee_26 : decode cX5_fee 26 = .ok (.if_icmp .gt 8, 3) := by decide +kernel
theorem dX5_fee_29 : decode cX5_fee 29 = .ok (.bipush 15, 2) := by decide +kernel
theorem dX5_fee_31 : decode cX5_fee 31 = .ok (.goto 5, 3) := by decide +kernel
theorem dX5_fee_34 : decode cX5_fee 34 = .ok (.bipush 50, 2) := by decide +kernel
theorem dX5_fee_36 : decode cX5_fee 36 = .ok (.istore 4, 2) := by decide +kernel
theorem dX5_fee_38 : decode cX5_fee 38 = .ok (.iload_n 2, 1) := by decide +kernel
theorem dX5_fee_39 : decode cX5_fee 39 = .ok (.i2l, 1) := by decide +kernel
theorem dX5_fee_40 : decode cX5_fee 40 = .ok (.iload 4, 2) := by decide +kernel
theorem dX5_fee_42 : decode cX5_fee 42 = .ok (.i2l, 1) := by decide +kernel
theorem dX5_fee_43 : decode cX5_fee 43 = .ok (.lmul, 1) := by decide +kernel
theorem dX5_fee_44 : decode cX5_fee 44 = .ok (.ldc2_w 131, 3) := by decide +kernel
theorem dX5_fee_47 : decode cX5_fee 47 = .ok (.ldiv, 1) := by decide +kernel
theorem dX5_fee_48 : decode cX5_fee 48 = .ok (.l2i, 1) := by decide +kernel
theorem dX5_fee_49 : decode cX5_fee 49 = .ok (.ireturn, 1) := by decide +kernel
set_option maxRecDepth 20000 in
theorem ggX5_comesBack_X5_release : GoodIn wsX5_comesBack wsX5_release := goodIn_r _ [17, 18, 3, 19, 20, 21, 22, 16, 23, 24, 25, 26, 27, 28, 2, 29, 30, 31, 32, 33, 34, 35, 51, 52, 53, 54, 55, 56, 57, 58, 59, 60, 61, 62, 63, 64, 65, 66, 67, 68, 69, 70, 71, 72, 73, 74, 75] (by decide +kernel) (by decide +kernel)
set_option maxRecDepth 20000 in
theorem gX5_comesBack_X5_release : GoodIn wsX5_comesBack (wsV RX5 164 RX5 yX5_release wsX5_release) := goodIn_app (goodIn_of _ (by decide +kernel)) ggX5_comesBack_X5_release
set_option maxRecDepth 20000 in
theorem ggX5_comesBack_X5_best : GoodIn wsX5_comesBack wsX5_best := goodIn_r _ [39, 40, 41, 42, 16, 43, 44, 45, 46, 47, 48, 49, 50, 51, 52, 53, 54, 55, 56, 57, 58, 59, 60, 61, 62, 63, 64, 65, 66, 67, 68, 69, 70, 71, 72, 73, 74, 75] (by decide +kernel) (by decide +kernel)
set_option maxRecDepth 20000 in
theorem gX5_comesBack_X5_best : GoodIn wsX5_comesBack (wsV RX5 152 RX5 yX5_best wsX5_best) := goodIn_app (goodIn_of _ (by decide +kernel)) ggX5_comesBack_X5_best
theorem dX5_comesBack_0 : decode cX5_comesBack 0 = .ok (.aload_n 0, 1) := by decide +kernel
theorem dX5_comesBack_1 : decode cX5_comesBack 1 = .ok (.iload_n 1, 1) := by decide +kernel
theorem dX5_comesBack_2 : decode cX5_comesBack 2 = .ok (.iload_n 2, 1) := by decide +kernel
theorem dX5_comesBack_3 : decode cX5_comesBack 3 = .ok (.iload_n 3, 1) := by decide +kernel
theorem dX5_comesBack_4 : decode cX5_comesBack 4 = .ok (.invokevirtual 164, 3) := by decide +kernel
theorem dX5_comesBack_7 : decode cX5_comesBack 7 = .ok (.istore 6, 2) := by decide +kernel
theorem dX5_comesBack_9 : decode cX5_comesBack 9 = .ok (.aload_n 0, 1) := by decide +kernel
theorem dX5_comesBack_10 : decode cX5_comesBack 10 = .ok (.getfield 43, 3) := by decide +kernel
theorem dX5_comesBack_13 : decode cX5_comesBack 13 = .ok (.bipush 6, 2) := by decide +kernel
theorem dX5_comesBack_15 : decode cX5_comesBack 15 = .ok (.iload_n 1, 1) := by decide +kernel
theorem dX5_comesBack_16 : decode cX5_comesBack 16 = .ok (.imul, 1) := by decide +kernel
theorem dX5_comesBack_17 : decode cX5_comesBack 17 = .ok (.iload_n 2, 1) := by decide +kernel
theorem dX5_comesBack_18 : decode cX5_comesBack 18 = .ok (.iadd, 1) := by decide +kernel
theorem dX5_comesBack_19 : decode cX5_comesBack 19 = .ok (.iaload, 1) := by decide +kernel
theorem dX5_comesBack_20 : decode cX5_comesBack 20 = .ok (.istore 7, 2) := by decide +kernel
theorem dX5_comesBack_22 : decode cX5_comesBack 22 = .ok (.aload_n 0, 1) := by decide +kernel
theorem dX5_comesBack_23 : decode cX5_comesBack 23 = .ok (.getfield 49, 3) := by decide +kernel
theorem dX5_comesBack_26 : decode cX5_comesBack 26 = .ok (.bipush 6, 2) := by decide +kernel
theorem dX5_comesBack_28 : decode cX5_comesBack 28 = .ok (.iload_n 1, 1) := by decide +kernel
theorem dX5_comesBack_29 : decode cX5_comesBack 29 = .ok (.imul, 1) := by decide +kernel
theorem dX5_comesBack_30 : decode cX5_comesBack 30 = .ok (.iload_n 2, 1) := by decide +kernel
theorem dX5_comesBack_31 : decode cX5_comesBack 31 = .ok (.iadd, 1) := by decide +kernel
theorem dX5_comesBack_32 : decode cX5_comesBack 32 = .ok (.dup2, 1) := by decide +kernel
theorem dX5_comesBack_33 : decode cX5_comesBack 33 = .ok (.iaload, 1) := by decide +kernel
theorem dX5_comesBack_34 : decode cX5_comesBack 34 = .ok (.iload_n 3, 1) := by decide +kernel
theorem dX5_comesBack_35 : decode cX5_comesBack 35 = .ok (.isub, 1) := by decide +kernel
theorem dX5_comesBack_36 : decode cX5_comesBack 36 = .ok (.iastore, 1) := by decide +kernel
theorem dX5_comesBack_37 : decode cX5_comesBack 37 = .ok (.aload_n 0, 1) := by decide +kernel
theorem dX5_comesBack_38 : decode cX5_comesBack 38 = .ok (.getfield 34, 3) := by decide +kernel
theorem dX5_comesBack_41 : decode cX5_comesBack 41 = .ok (.iload_n 1, 1) := by decide +kernel
theorem dX5_comesBack_42 : decode cX5_comesBack 42 = .ok (.dup2, 1) := by decide +kernel
theorem dX5_comesBack_43 : decode cX5_comesBack 43 = .ok (.iaload, 1) := by decide +kernel
theorem dX5_comesBack_44 : decode cX5_comesBack 44 = .ok (.iload 6, 2) := by decide +kernel
theorem dX5_comesBack_46 : decode cX5_comesBack 46 = .ok (.iadd, 1) := by decide +kernel
theorem dX5_comesBack_47 : decode cX5_comesBack 47 = .ok (.iastore, 1) := by decide +kernel
theorem dX5_comesBack_48 : decode cX5_comesBack 48 = .ok (.aload_n 0, 1) := by decide +kernel
theorem dX5_comesBack_49 : decode cX5_comesBack 49 = .ok (.getfield 19, 3) := by decide +kernel
theorem dX5_comesBack_52 : decode cX5_comesBack 52 = .ok (.iconst 5, 1) := by decide +kernel
theorem dX5_comesBack_53 : decode cX5_comesBack 53 = .ok (.iload 7, 2) := by decide +kernel
theorem dX5_comesBack_55 : decode cX5_comesBack 55 = .ok (.imul, 1) := by decide +kernel
theorem dX5_comesBack_56 : decode cX5_comesBack 56 = .ok (.aload_n 0, 1) := by decide +kernel
theorem dX5_comesBack_57 : decode cX5_comesBack 57 = .ok (.iload 7, 2) := by decide +kernel
theorem dX5_comesBack_59 : decode cX5_comesBack 59 = .ok (.iload 4, 2) := by decide +kernel
theorem dX5_comesBack_61 : decode cX5_comesBack 61 = .ok (.invokevirtual 152, 3) := by decide +kernel
theorem dX5_comesBack_64 : decode cX5_comesBack 64 = .ok (.iadd, 1) := by decide +kernel
theorem dX5_comesBack_65 : decode cX5_comesBack 65 = .ok (.dup2, 1) := by decide +kernel
theorem dX5_comesBack_66 : decode cX5_comesBack 66 = .ok (.iaload, 1) := by decide +kernel
theorem dX5_comesBack_67 : decode cX5_comesBack 67 = .ok (.iload_n 3, 1) := by decide +kernel
theorem dX5_comesBack_68 : decode cX5_comesBack 68 = .ok (.iadd, 1) := by decide +kernel
theorem dX5_comesBack_69 : decode cX5_comesBack 69 = .ok (.iastore, 1) := by decide +kernel
theorem dX5_comesBack_70 : decode cX5_comesBack 70 = .ok (.aload_n 0, 1) := by decide +kernel
theorem dX5_comesBack_71 : decode cX5_comesBack 71 = .ok (.getfield 52, 3) := by decide +kernel
theorem dX5_comesBack_74 : decode cX5_comesBack 74 = .ok (.aload_n 0, 1) := by decide +kernel
theorem dX5_comesBack_75 : decode cX5_comesBack 75 = .ok (.getfield 155, 3) := by decide +kernel
theorem dX5_comesBack_78 : decode cX5_comesBack 78 = .ok (.aload_n 0, 1) := by decide +kernel
theorem dX5_comesBack_79 : decode cX5_comesBack 79 = .ok (.getfield 22, 3) := by decide +kernel
theorem dX5_comesBack_82 : decode cX5_comesBack 82 = .ok (.iload_n 1, 1) := by decide +kernel
theorem dX5_comesBack_83 : decode cX5_comesBack 83 = .ok (.iaload, 1) := by decide +kernel
theorem dX5_comesBack_84 : decode cX5_comesBack 84 = .ok (.iastore, 1) := by decide +kernel
theorem dX5_comesBack_85 : decode cX5_comesBack 85 = .ok (.aload_n 0, 1) := by decide +kernel
theorem dX5_comesBack_86 : decode cX5_comesBack 86 = .ok (.getfield 55, 3) := by decide +kernel
theorem dX5_comesBack_89 : decode cX5_comesBack 89 = .ok (.aload_n 0, 1) := by decide +kernel
theorem dX5_comesBack_90 : decode cX5_comesBack 90 = .ok (.getfield 155, 3) := by decide +kernel
theorem dX5_comesBack_93 : decode cX5_comesBack 93 = .ok (.aload_n 0, 1) := by decide +kernel
theorem dX5_comesBack_94 : decode cX5_comesBack 94 = .ok (.getfield 94, 3) := by decide +kernel
theorem dX5_comesBack_97 : decode cX5_comesBack 97 = .ok (.iastore, 1) := by decide +kernel
theorem dX5_comesBack_98 : decode cX5_comesBack 98 = .ok (.aload_n 0, 1) := by decide +kernel
theorem dX5_comesBack_99 : decode cX5_comesBack 99 = .ok (.getfield 58, 3) := by decide +kernel
theorem dX5_comesBack_102 : decode cX5_comesBack 102 = .ok (.aload_n 0, 1) := by decide +kernel
theorem dX5_comesBack_103 : decode cX5_comesBack 103 = .ok (.getfield 155, 3) := by decide +kernel
theorem dX5_comesBack_106 : decode cX5_comesBack 106 = .ok (.iload_n 3, 1) := by decide +kernel
theorem dX5_comesBack_107 : decode cX5_comesBack 107 = .ok (.iastore, 1) := by decide +kernel
theorem dX5_comesBack_108 : decode cX5_comesBack 108 = .ok (.aload_n 0, 1) := by decide +kernel
theorem dX5_comesBack_109 : decode cX5_comesBack 109 = .ok (.getfield 61, 3) := by decide +kernel
theorem dX5_comesBack_112 : decode cX5_comesBack 112 = .ok (.aload_n 0, 1) := by decide +kernel
theorem dX5_comesBack_113 : decode cX5_comesBack 113 = .ok (.getfield 155, 3) := by decide +kernel
theorem dX5_comesBack_116 : decode cX5_comesBack 116 = .ok (.iload 5, 2) := by decide +kernel
theorem dX5_comesBack_118 : decode cX5_comesBack 118 = .ok (.ifCond .eq 16, 3) := by decide +kernel
theorem dX5_comesBack_121 : decode cX5_comesBack 121 = .ok (.aload_n 0, 1) := by decide +kernel
theorem dX5_comesBack_122 : decode cX5_comesBack 122 = .ok (.getfield 40, 3) := by decide +kernel
theorem dX5_comesBack_125 : decode cX5_comesBack 125 = .ok (.iload_n 1, 1) := by decide +kernel
theorem dX5_comesBack_126 : decode cX5_comesBack 126 = .ok (.iaload, 1) := by decide +kernel
theorem dX5_comesBack_127 : decode cX5_comesBack 127 = .ok (.ifCond .le 7, 3) := by decide +kernel
theorem dX5_comesBack_130 : decode cX5_comesBack 130 = .ok (.iconst 1, 1) := by decide +kernel
theorem dX5_comesBack_131 : decode cX5_comesBack 131 = .ok (.goto 4, 3) := by decide +kernel
theorem dX5_comesBack_134 : decode cX5_comesBack 134 = .ok (.iconst 0, 1) := by decide +kernel
theorem dX5_comesBack_135 : decode cX5_comesBack 135 = .ok (.bastore, 1) := by decide +kernel
theorem dX5_comesBack_136 : decode cX5_comesBack 136 = .ok (.aload_n 0, 1) := by decide +kernel
theorem dX5_comesBack_137 : decode cX5_comesBack 137 = .ok (.dup, 1) := by decide +kernel
theorem dX5_comesBack_138 : decode cX5_comesBack 138 = .ok (.getfield 155, 3) := by decide +kernel
theorem dX5_comesBack_141 : decode cX5_comesBack 141 = .ok (.iconst 1, 1) := by decide +kernel
theorem dX5_comesBack_142 : decode cX5_comesBack 142 = .ok (.iadd, 1) := by decide +kernel
theorem dX5_comesBack_143 : decode cX5_comesBack 143 = .ok (.putfield 155, 3) := by decide +kernel
theorem dX5_comesBack_146 : decode cX5_comesBack 146 = .ok (.iload 6, 2) := by decide +kernel
theorem dX5_comesBack_148 : decode cX5_comesBack 148 = .ok (.ireturn, 1) := by decide +kernel
set_option maxRecDepth 20000 in
theorem ggX5_barred_X5_scoreOf : GoodIn wsX5_barred wsX5_scoreOf := goodIn_r _ [6, 7, 8, 9, 10, 11, 12, 13, 14, 15, 16, 17, 18, 19, 20, 21, 22, 23, 24, 25, 26, 27, 28, 29, 30, 31, 32, 33, 34, 35, 36, 37] (by decide +kernel) (by decide +kernel)
set_option maxRecDepth 20000 in
theorem gX5_barred_X5_scoreOf : GoodIn wsX5_barred (wsV RX5 158 RX5 yX5_scoreOf wsX5_scoreOf) := goodIn_app (goodIn_of _ (by decide +kernel)) ggX5_barred_X5_scoreOf
theorem dX5_barred_0 : decode cX5_barred 0 = .ok (.iload_n 2, 1) := by decide +kernel
theorem dX5_barred_1 : decode cX5_barred 1 = .ok (.ifCond .le 7, 3) := by decide +kernel
theorem dX5_barred_4 : decode cX5_barred 4 = .ok (.iload_n 2, 1) := by decide +kernel
theorem dX5_barred_5 : decode cX5_barred 5 = .ok (.goto 23, 3) := by decide +kernel
theorem dX5_barred_8 : decode cX5_barred 8 = .ok (.aload_n 0, 1) := by decide +kernel
theorem dX5_barred_9 : decode cX5_barred 9 = .ok (.aload_n 0, 1) := by decide +kernel
theorem dX5_barred_10 : decode cX5_barred 10 = .ok (.getfield 22, 3) := by decide +kernel
theorem dX5_barred_13 : decode cX5_barred 13 = .ok (.iload_n 1, 1) := by decide +kernel
theorem dX5_barred_14 : decode cX5_barred 14 = .ok (.iaload, 1) := by decide +kernel
theorem dX5_barred_15 : decode cX5_barred 15 = .ok (.invokevirtual 158, 3) := by decide +kernel
theorem dX5_barred_18 : decode cX5_barred 18 = .ok (.bipush 100, 2) := by decide +kernel
theorem dX5_barred_20 : decode cX5_barred 20 = .ok (.if_icmp .lt 7, 3) := by decide +kernel
theorem dX5_barred_23 : decode cX5_barred 23 = .ok (.iconst 3, 1) := by decide +kernel
theorem dX5_barred_24 : decode cX5_barred 24 = .ok (.goto 4, 3) := by decide +kernel
theorem dX5_barred_27 : decode cX5_barred 27 = .ok (.iconst 0, 1) := by decide +kernel
theorem dX5_barred_28 : decode cX5_barred 28 = .ok (.ireturn, 1) := by decide +kernel
set_option maxRecDepth 20000 in
theorem ggX5_giveBack_X5_wrong : GoodIn wsX5_giveBack wsX5_wrong := goodIn_r _ [6, 7, 8, 9, 10, 5, 11, 12, 13, 14, 15, 16, 17, 18, 19, 20, 21, 22, 23, 24, 25, 26, 27, 28, 29, 30, 31, 99, 100, 101, 102, 103, 104, 105, 106, 107, 108, 109, 110, 111, 112, 113, 114, 115, 116, 117, 118, 119, 120, 121, 122, 123] (by decide +kernel) (by decide +kernel)
set_option maxRecDepth 20000 in
theorem gX5_giveBack_X5_wrong : GoodIn wsX5_giveBack (wsV RX5 167 RX5 yX5_wrong wsX5_wrong) := goodIn_app (goodIn_of _ (by decide +kernel)) ggX5_giveBack_X5_wrong
set_option maxRecDepth 20000 in
theorem ggX5_giveBack_X5_barred : GoodIn wsX5_giveBack wsX5_barred := goodIn_r _ [35, 36, 37, 38, 39, 5, 40, 41, 30, 42, 43, 44, 45, 99, 100, 101, 102, 103, 104, 105, 106, 107, 108, 109, 110, 111, 112, 113, 114, 115, 116, 117, 118, 119, 120, 121, 122, 123] (by decide +kernel) (by decide +kernel)
set_option maxRecDepth 20000 in
theorem gX5_giveBack_X5_barred : GoodIn wsX5_giveBack (wsV RX5 171 RX5 yX5_barred wsX5_barred) := goodIn_app (goodIn_of _ (by decide +kernel)) ggX5_giveBack_X5_barred
set_option maxRecDepth 20000 in
theorem ggX5_giveBack_X5_goes : GoodIn wsX5_giveBack wsX5_goes := goodIn_r _ [49, 50, 99, 100, 101, 102, 103, 104, 105, 106, 107, 108, 109, 110, 111, 112, 113, 114, 115, 116, 117, 118, 119, 120, 121, 122, 123] (by decide +kernel) (by decide +kernel)
set_option maxRecDepth 20000 in
theorem gX5_giveBack_X5_goes : GoodIn wsX5_giveBack (wsV RX5 91 RX5 yX5_goes wsX5_goes) := goodIn_app (goodIn_of _ (by decide +kernel)) ggX5_giveBack_X5_goes
set_option maxRecDepth 20000 in
theorem ggX5_giveBack_X5_comesBack : GoodIn wsX5_giveBack wsX5_comesBack := goodIn_r _ [54, 55, 7, 56, 57, 43, 41, 36, 42, 30, 44, 45, 58, 59, 60, 61, 5, 62, 63, 64, 65, 66, 67, 68, 12, 69, 70, 71, 72, 73, 74, 75, 76, 77, 78, 79, 80, 81, 82, 83, 84, 85, 86, 87, 88, 89, 90, 91, 92, 93, 94, 99, 100, 101, 102, 103, 104, 105, 106, 107, 108, 109, 110, 111, 112, 113, 114, 115, 116, 117, 118, 119, 120, 121, 122, 123] (by decide +kernel) (by decide +kernel)
set_option maxRecDepth 20000 in
theorem gX5_giveBack_X5_comesBack : GoodIn wsX5_giveBack (wsV RX5 174 RX5 yX5_comesBack wsX5_comesBack) := goodIn_app (goodIn_of _ (by decide +kernel)) ggX5_giveBack_X5_comesBack
set_option maxRecDepth 20000 in
theorem ggX5_giveBack_X5_fee : GoodIn wsX5_giveBack wsX5_fee := goodIn_r _ [98, 79, 26, 27, 28, 5, 29, 30, 25, 31, 99, 100, 101, 102, 103, 104, 105, 106, 107, 108, 109, 110, 111, 112, 113, 114, 115, 116, 117, 118, 119, 120, 121, 122, 123] (by decide +kernel) (by decide +kernel)
set_option maxRecDepth 20000 in
theorem gX5_giveBack_X5_fee : GoodIn wsX5_giveBack (wsV RX5 178 RX5 yX5_fee wsX5_fee) := goodIn_app (goodIn_of _ (by decide +kernel)) ggX5_giveBack_X5_fee
theorem dX5_giveBack_0 : decode cX5_giveBack 0 = .ok (.aload_n 0, 1) := by decide +kernel
theorem dX5_giveBack_1 : decode cX5_giveBack 1 = .ok (.aload_n 0, 1) := by decide +kernel
theorem dX5_giveBack_2 : decode cX5_giveBack 2 = .ok (.iload_n 1, 1) := by decide +kernel
theorem dX5_giveBack_3 : decode cX5_giveBack 3 = .ok (.aload_n 0, 1) := by decide +kernel
theorem dX5_giveBack_4 : decode cX5_giveBack 4 = .ok (.iload_n 1, 1) := by decide +kernel
theorem dX5_giveBack_5 : decode cX5_giveBack 5 = .ok (.iload_n 2, 1) := by decide +kernel
theorem dX5_giveBack_6 : decode cX5_giveBack 6 = .ok (.iload_n 3, 1) := by decide +kernel
theorem dX5_giveBack_7 : decode cX5_giveBack 7 = .ok (.iload 4, 2) := by decide +kernel
theorem dX5_giveBack_9 : decode cX5_giveBack 9 = .ok (.invokevirtual 167, 3) := by decide +kernel
theorem dX5_giveBack_12 : decode cX5_giveBack 12 = .ok (.invokevirtual 171, 3) := by decide +kernel
theorem dX5_giveBack_15 : decode cX5_giveBack 15 = .ok (.invokevirtual 91, 3) := by decide +kernel
theorem dX5_giveBack_18 : decode cX5_giveBack 18 = .ok (.ifCond .ne 5, 3) := by decide +kernel
theorem dX5_giveBack_21 : decode cX5_giveBack 21 = .ok (.iconst 0, 1) := by decide +kernel
theorem dX5_giveBack_22 : decode cX5_giveBack 22 = .ok (.ireturn, 1) := by decide +kernel
theorem dX5_giveBack_23 : decode cX5_giveBack 23 = .ok (.aload_n 0, 1) := by decide +kernel
theorem dX5_giveBack_24 : decode cX5_giveBack 24 = .ok (.iload_n 1, 1) := by decide +kernel
theorem dX5_giveBack_25 : decode cX5_giveBack 25 = .ok (.iload_n 2, 1) := by decide +kernel
theorem dX5_giveBack_26 : decode cX5_giveBack 26 = .ok (.iload_n 3, 1) := by decide +kernel
theorem dX5_giveBack_27 : decode cX5_giveBack 27 = .ok (.iload 4, 2) := by decide +kernel
theorem dX5_giveBack_29 : decode cX5_giveBack 29 = .ok (.iconst 0, 1) := by decide +kernel
theorem dX5_giveBack_30 : decode cX5_giveBack 30 = .ok (.invokevirtual 174, 3) := by decide +kernel
theorem dX5_giveBack_33 : decode cX5_giveBack 33 = .ok (.istore 5, 2) := by decide +kernel
theorem dX5_giveBack_35 : decode cX5_giveBack 35 = .ok (.aload_n 0, 1) := by decide +kernel
theorem dX5_giveBack_36 : decode cX5_giveBack 36 = .ok (.iload_n 1, 1) := by decide +kernel
theorem dX5_giveBack_37 : decode cX5_giveBack 37 = .ok (.iload 5, 2) := by decide +kernel
theorem dX5_giveBack_39 : decode cX5_giveBack 39 = .ok (.iload 4, 2) := by decide +kernel
theorem dX5_giveBack_41 : decode cX5_giveBack 41 = .ok (.invokevirtual 178, 3) := by decide +kernel
theorem dX5_giveBack_44 : decode cX5_giveBack 44 = .ok (.istore 6, 2) := by decide +kernel
theorem dX5_giveBack_46 : decode cX5_giveBack 46 = .ok (.aload_n 0, 1) := by decide +kernel
theorem dX5_giveBack_47 : decode cX5_giveBack 47 = .ok (.dup, 1) := by decide +kernel
theorem dX5_giveBack_48 : decode cX5_giveBack 48 = .ok (.getfield 181, 3) := by decide +kernel
theorem dX5_giveBack_51 : decode cX5_giveBack 51 = .ok (.iload 6, 2) := by decide +kernel
theorem dX5_giveBack_53 : decode cX5_giveBack 53 = .ok (.iadd, 1) := by decide +kernel
theorem dX5_giveBack_54 : decode cX5_giveBack 54 = .ok (.putfield 181, 3) := by decide +kernel
theorem dX5_giveBack_57 : decode cX5_giveBack 57 = .ok (.iload 5, 2) := by decide +kernel
theorem dX5_giveBack_59 : decode cX5_giveBack 59 = .ok (.iload 6, 2) := by decide +kernel
theorem dX5_giveBack_61 : decode cX5_giveBack 61 = .ok (.isub, 1) := by decide +kernel
theorem dX5_giveBack_62 : decode cX5_giveBack 62 = .ok (.ireturn, 1) := by decide +kernel
set_option maxRecDepth 20000 in
theorem ggX5_exchange_X5_wrong : GoodIn wsX5_exchange wsX5_wrong := goodIn_r _ [9, 10, 11, 12, 13, 8, 14, 15, 16, 17, 18, 19, 1, 20, 21, 22, 23, 24, 25, 26, 27, 28, 29, 30, 31, 32, 3, 109, 110, 111, 112, 113, 114, 115, 116, 117, 118, 119, 120, 121, 122, 123, 124, 125, 126, 127, 128, 129, 130, 131, 132, 133] (by decide +kernel) (by decide +kernel)
set_option maxRecDepth 20000 in
theorem gX5_exchange_X5_wrong : GoodIn wsX5_exchange (wsV RX5 167 RX5 yX5_wrong wsX5_wrong) := goodIn_app (goodIn_of _ (by decide +kernel)) ggX5_exchange_X5_wrong
set_option maxRecDepth 20000 in
theorem ggX5_exchange_X5_isTen : GoodIn wsX5_exchange wsX5_isTen := goodIn_r _ [35, 20, 21, 8, 22] (by decide +kernel) (by decide +kernel)
set_option maxRecDepth 20000 in
theorem gX5_exchange_X5_isTen : GoodIn wsX5_exchange (va_wsS RX5 87 yX5_isTen wsX5_isTen) := goodIn_app (goodIn_of _ (by decide +kernel)) ggX5_exchange_X5_isTen
set_option maxRecDepth 20000 in
theorem ggX5_exchange_X5_barred : GoodIn wsX5_exchange wsX5_barred := goodIn_r _ [39, 2, 40, 41, 42, 8, 43, 44, 32, 45, 46, 47, 48, 109, 110, 111, 112, 113, 114, 115, 116, 117, 118, 119, 120, 121, 122, 123, 124, 125, 126, 127, 128, 129, 130, 131, 132, 133] (by decide +kernel) (by decide +kernel)
set_option maxRecDepth 20000 in
theorem gX5_exchange_X5_barred : GoodIn wsX5_exchange (wsV RX5 171 RX5 yX5_barred wsX5_barred) := goodIn_app (goodIn_of _ (by decide +kernel)) ggX5_exchange_X5_barred
set_option maxRecDepth 20000 in
theorem ggX5_exchange_X5_goes : GoodIn wsX5_exchange wsX5_goes := goodIn_r _ [52, 53, 109, 110, 111, 112, 113, 114, 115, 116, 117, 118, 119, 120, 121, 122, 123, 124, 125, 126, 127, 128, 129, 130, 131, 132, 133] (by decide +kernel) (by decide +kernel)
set_option maxRecDepth 20000 in
theorem gX5_exchange_X5_goes : GoodIn wsX5_exchange (wsV RX5 91 RX5 yX5_goes wsX5_goes) := goodIn_app (goodIn_of _ (by decide +kernel)) ggX5_exchange_X5_goes
set_option maxRecDepth 20000 in
theorem ggX5_exchange_X5_comesBack : GoodIn wsX5_exchange wsX5_comesBack := goodIn_r _ [57, 58, 10, 59, 60, 46, 44, 2, 45, 32, 47, 48, 4, 61, 62, 63, 8, 64, 65, 66, 67, 68, 69, 70, 15, 71, 72, 73, 74, 75, 76, 77, 78, 79, 80, 81, 82, 83, 84, 85, 86, 87, 88, 89, 90, 91, 92, 93, 94, 95, 96, 109, 110, 111, 112, 113, 114, 115, 116, 117, 118, 119, 120, 121, 122, 123, 124, 125, 126, 127, 128, 129, 130, 131, 132, 133] (by decide +kernel) (by decide +kernel)
set_option maxRecDepth 20000 in
theorem gX5_exchange_X5_comesBack : GoodIn wsX5_exchange (wsV RX5 174 RX5 yX5_comesBack wsX5_comesBack) := goodIn_app (goodIn_of _ (by decide +kernel)) ggX5_exchange_X5_comesBack
set_option maxRecDepth 20000 in
theorem ggX5_exchange_X5_opens : GoodIn wsX5_exchange wsX5_opens := goodIn_r _ [100, 2, 1, 15, 27, 65, 59, 3, 4, 109, 110, 111, 112, 113, 114, 115, 116, 117, 118, 119, 120, 121, 122, 123, 124, 125, 126, 127, 128, 129, 130, 131, 132, 133] (by decide +kernel) (by decide +kernel)
set_option maxRecDepth 20000 in
theorem gX5_exchange_X5_opens : GoodIn wsX5_exchange (wsV RX5 104 RX5 yX5_opens wsX5_opens) := goodIn_app (goodIn_of _ (by decide +kernel)) ggX5_exchange_X5_opens
set_option maxRecDepth 20000 in
theorem ggX5_exchange_X5_adds : GoodIn wsX5_exchange wsX5_adds := goodIn_r _ [104, 15, 58, 66, 90, 10, 109, 110, 111, 112, 113, 114, 115, 116, 117, 118, 119, 120, 121, 122, 123, 124, 125, 126, 127, 128, 129, 130, 131, 132, 133] (by decide +kernel) (by decide +kernel)
set_option maxRecDepth 20000 in
theorem gX5_exchange_X5_adds : GoodIn wsX5_exchange (wsV RX5 110 RX5 yX5_adds wsX5_adds) := goodIn_app (goodIn_of _ (by decide +kernel)) ggX5_exchange_X5_adds
set_option maxRecDepth 20000 in
theorem ggX5_exchange_X5_pays : GoodIn wsX5_exchange wsX5_pays := goodIn_r _ [108, 27, 32, 65, 67, 68, 69, 8, 70, 15, 71, 72, 73, 74, 66, 10, 75, 76, 77, 78, 79, 80, 81, 109, 110, 111, 112, 113, 114, 115, 116, 117, 118, 119, 120, 121, 122, 123, 124, 125, 126, 127, 128, 129, 130, 131, 132, 133] (by decide +kernel) (by decide +kernel)
set_option maxRecDepth 20000 in
theorem gX5_exchange_X5_pays : GoodIn wsX5_exchange (wsV RX5 114 RX5 yX5_pays wsX5_pays) := goodIn_app (goodIn_of _ (by decide +kernel)) ggX5_exchange_X5_pays
theorem dX5_exchange_0 : decode cX5_exchange 0 = .ok (.aload_n 0, 1) := by decide +kernel
theorem dX5_exchange_1 : decode cX5_exchange 1 = .ok (.iload_n 1, 1) := by decide +kernel
theorem dX5_exchange_2 : decode cX5_exchange 2 = .ok (.iload_n 2, 1) := by decide +kernel
theorem dX5_exchange_3 : decode cX5_exchange 3 = .ok (.iload_n 3, 1) := by decide +kernel
theorem dX5_exchange_4 : decode cX5_exchange 4 = .ok (.iload 4, 2) := by decide +kernel
theorem dX5_exchange_6 : decode cX5_exchange 6 = .ok (.invokevirtual 167, 3) := by decide +kernel
theorem dX5_exchange_9 : decode cX5_exchange 9 = .ok (.istore 6, 2) := by decide +kernel
theorem dX5_exchange_11 : decode cX5_exchange 11 = .ok (.aload_n 0, 1) := by decide +kernel
theorem dX5_exchange_12 : decode cX5_exchange 12 = .ok (.iload 6, 2) := by decide +kernel
theorem dX5_exchange_14 : decode cX5_exchange 14 = .ok (.iconst 1, 1) := by decide +kernel
theorem dX5_exchange_15 : decode cX5_exchange 15 = .ok (.if_icmp .ne 7, 3) := by decide +kernel
theorem dX5_exchange_18 : decode cX5_exchange 18 = .ok (.iconst 1, 1) := by decide +kernel
theorem dX5_exchange_19 : decode cX5_exchange 19 = .ok (.goto 22, 3) := by decide +kernel
theorem dX5_exchange_22 : decode cX5_exchange 22 = .ok (.iload 5, 2) := by decide +kernel
theorem dX5_exchange_24 : decode cX5_exchange 24 = .ok (.invokestatic 87, 3) := by decide +kernel
theorem dX5_exchange_27 : decode cX5_exchange 27 = .ok (.ifCond .ne 7, 3) := by decide +kernel
theorem dX5_exchange_30 : decode cX5_exchange 30 = .ok (.iconst 2, 1) := by decide +kernel
theorem dX5_exchange_31 : decode cX5_exchange 31 = .ok (.goto 10, 3) := by decide +kernel
theorem dX5_exchange_34 : decode cX5_exchange 34 = .ok (.aload_n 0, 1) := by decide +kernel
theorem dX5_exchange_35 : decode cX5_exchange 35 = .ok (.iload_n 1, 1) := by decide +kernel
theorem dX5_exchange_36 : decode cX5_exchange 36 = .ok (.iload 6, 2) := by decide +kernel
theorem dX5_exchange_38 : decode cX5_exchange 38 = .ok (.invokevirtual 171, 3) := by decide +kernel
theorem dX5_exchange_41 : decode cX5_exchange 41 = .ok (.invokevirtual 91, 3) := by decide +kernel
theorem dX5_exchange_44 : decode cX5_exchange 44 = .ok (.ifCond .ne 5, 3) := by decide +kernel
theorem dX5_exchange_47 : decode cX5_exchange 47 = .ok (.iconst 0, 1) := by decide +kernel
theorem dX5_exchange_48 : decode cX5_exchange 48 = .ok (.ireturn, 1) := by decide +kernel
theorem dX5_exchange_49 : decode cX5_exchange 49 = .ok (.aload_n 0, 1) := by decide +kernel
theorem dX5_exchange_50 : decode cX5_exchange 50 = .ok (.aload_n 0, 1) := by decide +kernel
theorem dX5_exchange_51 : decode cX5_exchange 51 = .ok (.getfield 80, 3) := by decide +kernel
theorem dX5_exchange_54 : decode cX5_exchange 54 = .ok (.bipush 40, 2) := by decide +kernel
theorem dX5_exchange_56 : decode cX5_exchange 56 = .ok (.if_icmp .ne 7, 3) := by decide +kernel
theorem dX5_exchange_59 : decode cX5_exchange 59 = .ok (.iconst 3, 1) := by decide +kernel
theorem dX5_exchange_60 : decode cX5_exchange 60 = .ok (.goto 4, 3) := by decide +kernel
theorem dX5_exchange_63 : decode cX5_exchange 63 = .ok (.iconst 0, 1) := by decide +kernel
theorem dX5_exchange_64 : decode cX5_exchange 64 = .ok (.invokevirtual 91, 3) := by decide +kernel
theorem dX5_exchange_67 : decode cX5_exchange 67 = .ok (.ifCond .ne 5, 3) := by decide +kernel
theorem dX5_exchange_70 : decode cX5_exchange 70 = .ok (.iconst 0, 1) := by decide +kernel
theorem dX5_exchange_71 : decode cX5_exchange 71 = .ok (.ireturn, 1) := by decide +kernel
theorem dX5_exchange_72 : decode cX5_exchange 72 = .ok (.aload_n 0, 1) := by decide +kernel
theorem dX5_exchange_73 : decode cX5_exchange 73 = .ok (.iload_n 1, 1) := by decide +kernel
theorem dX5_exchange_74 : decode cX5_exchange 74 = .ok (.iload_n 2, 1) := by decide +kernel
theorem dX5_exchange_75 : decode cX5_exchange 75 = .ok (.iload_n 3, 1) := by decide +kernel
theorem dX5_exchange_76 : decode cX5_exchange 76 = .ok (.iload 4, 2) := by decide +kernel
theorem dX5_exchange_78 : decode cX5_exchange 78 = .ok (.iconst 1, 1) := by decide +kernel
theorem dX5_exchange_79 : decode cX5_exchange 79 = .ok (.invokevirtual 174, 3) := by decide +kernel
theorem dX5_exchange_82 : decode cX5_exchange 82 = .ok (.istore 7, 2) := by decide +kernel
theorem dX5_exchange_84 : decode cX5_exchange 84 = .ok (.aload_n 0, 1) := by decide +kernel
theorem dX5_exchange_85 : decode cX5_exchange 85 = .ok (.aload_n 0, 1) := by decide +kernel
theorem dX5_exchange_86 : decode cX5_exchange 86 = .ok (.getfield 22, 3) := by decide +kernel
theorem dX5_exchange_89 : decode cX5_exchange 89 = .ok (.iload_n 1, 1) := by decide +kernel
theorem dX5_exchange_90 : decode cX5_exchange 90 = .ok (.iaload, 1) := by decide +kernel
theorem dX5_exchange_91 : decode cX5_exchange 91 = .ok (.invokevirtual 104, 3) := by decide +kernel
theorem dX5_exchange_94 : decode cX5_exchange 94 = .ok (.istore 8, 2) := by decide +kernel
theorem dX5_exchange_96 : decode cX5_exchange 96 = .ok (.aload_n 0, 1) := by decide +kernel
theorem dX5_exchange_97 : decode cX5_exchange 97 = .ok (.getfield 37, 3) := by decide +kernel
theorem dX5_exchange_100 : decode cX5_exchange 100 = .ok (.iload 8, 2) := by decide +kernel
theorem dX5_exchange_102 : decode cX5_exchange 102 = .ok (.aload_n 0, 1) := by decide +kernel
theorem dX5_exchange_103 : decode cX5_exchange 103 = .ok (.getfield 37, 3) := by decide +kernel
theorem dX5_exchange_106 : decode cX5_exchange 106 = .ok (.iload_n 1, 1) := by decide +kernel
theorem dX5_exchange_107 : decode cX5_exchange 107 = .ok (.iaload, 1) := by decide +kernel
theorem dX5_exchange_108 : decode cX5_exchange 108 = .ok (.iastore, 1) := by decide +kernel
theorem dX5_exchange_109 : decode cX5_exchange 109 = .ok (.aload_n 0, 1) := by decide +kernel
theorem dX5_exchange_110 : decode cX5_exchange 110 = .ok (.getfield 40, 3) := by decide +kernel
theorem dX5_exchange_113 : decode cX5_exchange 113 = .ok (.iload 8, 2) := by decide +kernel
theorem dX5_exchange_115 : decode cX5_exchange 115 = .ok (.aload_n 0, 1) := by decide +kernel
theorem dX5_exchange_116 : decode cX5_exchange 116 = .ok (.getfield 40, 3) := by decide +kernel
theorem dX5_exchange_119 : decode cX5_exchange 119 = .ok (.iload_n 1, 1) := by decide +kernel
theorem dX5_exchange_120 : decode cX5_exchange 120 = .ok (.iaload, 1) := by decide +kernel
theorem dX5_exchange_121 : decode cX5_exchange 121 = .ok (.iconst 1, 1) := by decide +kernel
theorem dX5_exchange_122 : decode cX5_exchange 122 = .ok (.iadd, 1) := by decide +kernel
theorem dX5_exchange_123 : decode cX5_exchange 123 = .ok (.iastore, 1) := by decide +kernel
theorem dX5_exchange_124 : decode cX5_exchange 124 = .ok (.aload_n 0, 1) := by decide +kernel
theorem dX5_exchange_125 : decode cX5_exchange 125 = .ok (.iload 8, 2) := by decide +kernel
theorem dX5_exchange_127 : decode cX5_exchange 127 = .ok (.iload 5, 2) := by decide +kernel
theorem dX5_exchange_129 : decode cX5_exchange 129 = .ok (.iload_n 3, 1) := by decide +kernel
theorem dX5_exchange_130 : decode cX5_exchange 130 = .ok (.invokevirtual 110, 3) := by decide +kernel
theorem dX5_exchange_133 : decode cX5_exchange 133 = .ok (.istore 9, 2) := by decide +kernel
theorem dX5_exchange_135 : decode cX5_exchange 135 = .ok (.aload_n 0, 1) := by decide +kernel
theorem dX5_exchange_136 : decode cX5_exchange 136 = .ok (.iload 8, 2) := by decide +kernel
theorem dX5_exchange_138 : decode cX5_exchange 138 = .ok (.invokevirtual 114, 3) := by decide +kernel
theorem dX5_exchange_141 : decode cX5_exchange 141 = .ok (.iload 7, 2) := by decide +kernel
theorem dX5_exchange_143 : decode cX5_exchange 143 = .ok (.isub, 1) := by decide +kernel
theorem dX5_exchange_144 : decode cX5_exchange 144 = .ok (.ireturn, 1) := by decide +kernel
set_option maxRecDepth 20000 in
theorem ggX5_quote_X5_wrong : GoodIn wsX5_quote wsX5_wrong := goodIn_r _ [5, 6, 7, 8, 9, 4, 10, 11, 12, 13, 14, 15, 16, 17, 18, 19, 20, 21, 22, 23, 24, 25, 26, 27, 28, 29, 30, 62, 63, 64, 65, 66, 67, 68, 69, 70, 71, 72, 73, 74, 75, 76, 77, 78, 79, 80, 81, 82, 83, 84, 85, 86] (by decide +kernel) (by decide +kernel)
set_option maxRecDepth 20000 in
theorem gX5_quote_X5_wrong : GoodIn wsX5_quote (wsV RX5 167 RX5 yX5_wrong wsX5_wrong) := goodIn_app (goodIn_of _ (by decide +kernel)) ggX5_quote_X5_wrong
set_option maxRecDepth 20000 in
theorem ggX5_quote_X5_goes : GoodIn wsX5_quote wsX5_goes := goodIn_r _ [34, 35, 62, 63, 64, 65, 66, 67, 68, 69, 70, 71, 72, 73, 74, 75, 76, 77, 78, 79, 80, 81, 82, 83, 84, 85, 86] (by decide +kernel) (by decide +kernel)
set_option maxRecDepth 20000 in
theorem gX5_quote_X5_goes : GoodIn wsX5_quote (wsV RX5 91 RX5 yX5_goes wsX5_goes) := goodIn_app (goodIn_of _ (by decide +kernel)) ggX5_quote_X5_goes
set_option maxRecDepth 20000 in
theorem ggX5_quote_X5_release : GoodIn wsX5_quote wsX5_release := goodIn_r _ [39, 40, 41, 42, 43, 44, 45, 4, 46, 11, 47, 48, 49, 50, 6, 51, 52, 53, 54, 55, 56, 57, 62, 63, 64, 65, 66, 67, 68, 69, 70, 71, 72, 73, 74, 75, 76, 77, 78, 79, 80, 81, 82, 83, 84, 85, 86] (by decide +kernel) (by decide +kernel)
set_option maxRecDepth 20000 in
theorem gX5_quote_X5_release : GoodIn wsX5_quote (wsV RX5 164 RX5 yX5_release wsX5_release) := goodIn_app (goodIn_of _ (by decide +kernel)) ggX5_quote_X5_release
set_option maxRecDepth 20000 in
theorem ggX5_quote_X5_fee : GoodIn wsX5_quote wsX5_fee := goodIn_r _ [61, 57, 25, 26, 27, 4, 28, 29, 24, 30, 62, 63, 64, 65, 66, 67, 68, 69, 70, 71, 72, 73, 74, 75, 76, 77, 78, 79, 80, 81, 82, 83, 84, 85, 86] (by decide +kernel) (by decide +kernel)
set_option maxRecDepth 20000 in
theorem gX5_quote_X5_fee : GoodIn wsX5_quote (wsV RX5 178 RX5 yX5_fee wsX5_fee) := goodIn_app (goodIn_of _ (by decide +kernel)) ggX5_quote_X5_fee
theorem dX5_quote_0 : decode cX5_quote 0 = .ok (.aload_n 0, 1) := by decide +kernel
theorem dX5_quote_1 : decode cX5_quote 1 = .ok (.aload_n 0, 1) := by decide +kernel
theorem dX5_quote_2 : decode cX5_quote 2 = .ok (.iload_n 1, 1) := by decide +kernel
theorem dX5_quote_3 : decode cX5_quote 3 = .ok (.iload_n 2, 1) := by decide +kernel
theorem dX5_quote_4 : decode cX5_quote 4 = .ok (.iload_n 3, 1) := by decide +kernel
theorem dX5_quote_5 : decode cX5_quote 5 = .ok (.iload 4, 2) := by decide +kernel
theorem dX5_quote_7 : decode cX5_quote 7 = .ok (.invokevirtual 167, 3) := by decide +kernel
theorem dX5_quote_10 : decode cX5_quote 10 = .ok (.invokevirtual 91, 3) := by decide +kernel
theorem dX5_quote_13 : decode cX5_quote 13 = .ok (.ifCond .ne 5, 3) := by decide +kernel
theorem dX5_quote_16 : decode cX5_quote 16 = .ok (.iconst 0, 1) := by decide +kernel
theorem dX5_quote_17 : decode cX5_quote 17 = .ok (.ireturn, 1) := by decide +kernel
theorem dX5_quote_18 : decode cX5_quote 18 = .ok (.aload_n 0, 1) := by decide +kernel
theorem dX5_quote_19 : decode cX5_quote 19 = .ok (.iload_n 1, 1) := by decide +kernel
theorem dX5_quote_20 : decode cX5_quote 20 = .ok (.iload_n 2, 1) := by decide +kernel
theorem dX5_quote_21 : decode cX5_quote 21 = .ok (.iload_n 3, 1) := by decide +kernel
theorem dX5_quote_22 : decode cX5_quote 22 = .ok (.invokevirtual 164, 3) := by decide +kernel
theorem dX5_quote_25 : decode cX5_quote 25 = .ok (.istore 5, 2) := by decide +kernel
theorem dX5_quote_27 : decode cX5_quote 27 = .ok (.iload 5, 2) := by decide +kernel
theorem dX5_quote_29 : decode cX5_quote 29 = .ok (.aload_n 0, 1) := by decide +kernel
theorem dX5_quote_30 : decode cX5_quote 30 = .ok (.iload_n 1, 1) := by decide +kernel
theorem dX5_quote_31 : decode cX5_quote 31 = .ok (.iload 5, 2) := by decide +kernel
theorem dX5_quote_33 : decode cX5_quote 33 = .ok (.iload 4, 2) := by decide +kernel
theorem dX5_quote_35 : decode cX5_quote 35 = .ok (.invokevirtual 178, 3) := by decide +kernel
theorem dX5_quote_38 : decode cX5_quote 38 = .ok (.isub, 1) := by decide +kernel
theorem dX5_quote_39 : decode cX5_quote 39 = .ok (.ireturn, 1) := by decide +kernel
set_option maxRecDepth 20000 in
theorem ggX5_released_X5_isSale : GoodIn wsX5_released wsX5_isSale := goodIn_r _ [6, 7, 8, 9, 5, 10, 16, 17, 18, 19, 20, 21, 22, 23, 24, 25, 26, 27, 28, 29, 30, 31, 32, 33, 34, 35, 36, 37, 38, 39, 40] (by decide +kernel) (by decide +kernel)
set_option maxRecDepth 20000 in
theorem gX5_released_X5_isSale : GoodIn wsX5_released (wsV RX5 83 RX5 yX5_isSale wsX5_isSale) := goodIn_app (goodIn_of _ (by decide +kernel)) ggX5_released_X5_isSale
set_option maxRecDepth 20000 in
theorem ggX5_released_X5_goes : GoodIn wsX5_released wsX5_goes := goodIn_r _ [14, 15, 16, 17, 18, 19, 20, 21, 22, 23, 24, 25, 26, 27, 28, 29, 30, 31, 32, 33, 34, 35, 36, 37, 38, 39, 40] (by decide +kernel) (by decide +kernel)
set_option maxRecDepth 20000 in
theorem gX5_released_X5_goes : GoodIn wsX5_released (wsV RX5 91 RX5 yX5_goes wsX5_goes) := goodIn_app (goodIn_of _ (by decide +kernel)) ggX5_released_X5_goes
theorem dX5_released_0 : decode cX5_released 0 = .ok (.aload_n 0, 1) := by decide +kernel
theorem dX5_released_1 : decode cX5_released 1 = .ok (.aload_n 0, 1) := by decide +kernel
theorem dX5_released_2 : decode cX5_released 2 = .ok (.iload_n 1, 1) := by decide +kernel
theorem dX5_released_3 : decode cX5_released 3 = .ok (.invokevirtual 83, 3) := by decide +kernel
theorem dX5_released_6 : decode cX5_released 6 = .ok (.ifCond .eq 7, 3) := by decide +kernel
theorem dX5_released_9 : decode cX5_released 9 = .ok (.iconst 0, 1) := by decide +kernel
theorem dX5_released_10 : decode cX5_released 10 = .ok (.goto 4, 3) := by decide +kernel
theorem dX5_released_13 : decode cX5_released 13 = .ok (.iconst 1, 1) := by decide +kernel
theorem dX5_released_14 : decode cX5_released 14 = .ok (.invokevirtual 91, 3) := by decide +kernel
theorem dX5_released_17 : decode cX5_released 17 = .ok (.ifCond .eq 12, 3) := by decide +kernel
theorem dX5_released_20 : decode cX5_released 20 = .ok (.aload_n 0, 1) := by decide +kernel
theorem dX5_released_21 : decode cX5_released 21 = .ok (.getfield 34, 3) := by decide +kernel
theorem dX5_released_24 : decode cX5_released 24 = .ok (.iload_n 1, 1) := by decide +kernel
theorem dX5_released_25 : decode cX5_released 25 = .ok (.iaload, 1) := by decide +kernel
theorem dX5_released_26 : decode cX5_released 26 = .ok (.goto 4, 3) := by decide +kernel
theorem dX5_released_29 : decode cX5_released 29 = .ok (.iconst 0, 1) := by decide +kernel
theorem dX5_released_30 : decode cX5_released 30 = .ok (.ireturn, 1) := by decide +kernel
theorem dX5_fees_0 : decode cX5_fees 0 = .ok (.aload_n 0, 1) := by decide +kernel
theorem dX5_fees_1 : decode cX5_fees 1 = .ok (.iconst 0, 1) := by decide +kernel
theorem dX5_fees_2 : decode cX5_fees 2 = .ok (.putfield 72, 3) := by decide +kernel
theorem dX5_fees_5 : decode cX5_fees 5 = .ok (.aload_n 0, 1) := by decide +kernel
theorem dX5_fees_6 : decode cX5_fees 6 = .ok (.getfield 181, 3) := by decide +kernel
theorem dX5_fees_9 : decode cX5_fees 9 = .ok (.ireturn, 1) := by decide +kernel
set_option maxRecDepth 20000 in
theorem ggX5_firstSale_X5_isSale : GoodIn wsX5_firstSale wsX5_isSale := goodIn_r _ [6, 7, 8, 9, 5, 10, 16, 17, 18, 19, 20, 21, 22, 23, 24, 25, 26, 27, 28, 29, 30, 31, 32, 33, 34, 35, 36, 37, 38, 39, 40] (by decide +kernel) (by decide +kernel)
set_option maxRecDepth 20000 in
theorem gX5_firstSale_X5_isSale : GoodIn wsX5_firstSale (wsV RX5 83 RX5 yX5_isSale wsX5_isSale) := goodIn_app (goodIn_of _ (by decide +kernel)) ggX5_firstSale_X5_isSale
set_option maxRecDepth 20000 in
theorem ggX5_firstSale_X5_goes : GoodIn wsX5_firstSale wsX5_goes := goodIn_r _ [14, 15, 16, 17, 18, 19, 20, 21, 22, 23, 24, 25, 26, 27, 28, 29, 30, 31, 32, 33, 34, 35, 36, 37, 38, 39, 40] (by decide +kernel) (by decide +kernel)
set_option maxRecDepth 20000 in
theorem gX5_firstSale_X5_goes : GoodIn wsX5_firstSale (wsV RX5 91 RX5 yX5_goes wsX5_goes) := goodIn_app (goodIn_of _ (by decide +kernel)) ggX5_firstSale_X5_goes
theorem dX5_firstSale_0 : decode cX5_firstSale 0 = .ok (.aload_n 0, 1) := by decide +kernel
theorem dX5_firstSale_1 : decode cX5_firstSale 1 = .ok (.aload_n 0, 1) := by decide +kernel
theorem dX5_firstSale_2 : decode cX5_firstSale 2 = .ok (.iload_n 1, 1) := by decide +kernel
theorem dX5_firstSale_3 : decode cX5_firstSale 3 = .ok (.invokevirtual 83, 3) := by decide +kernel
theorem dX5_firstSale_6 : decode cX5_firstSale 6 = .ok (.ifCond .eq 7, 3) := by decide +kernel
theorem dX5_firstSale_9 : decode cX5_firstSale 9 = .ok (.iconst 0, 1) := by decide +kernel
theorem dX5_firstSale_10 : decode cX5_firstSale 10 = .ok (.goto 4, 3) := by decide +kernel
theorem dX5_firstSale_13 : decode cX5_firstSale 13 = .ok (.iconst 1, 1) := by decide +kernel
theorem dX5_firstSale_14 : decode cX5_firstSale 14 = .ok (.invokevirtual 91, 3) := by decide +kernel
theorem dX5_firstSale_17 : decode cX5_firstSale 17 = .ok (.ifCond .eq 12, 3) := by decide +kernel
theorem dX5_firstSale_20 : decode cX5_firstSale 20 = .ok (.aload_n 0, 1) := by decide +kernel
theorem dX5_firstSale_21 : decode cX5_firstSale 21 = .ok (.getfield 37, 3) := by decide +kernel
theorem dX5_firstSale_24 : decode cX5_firstSale 24 = .ok (.iload_n 1, 1) := by decide +kernel
theorem dX5_firstSale_25 : decode cX5_firstSale 25 = .ok (.iaload, 1) := by decide +kernel
theorem dX5_firstSale_26 : decode cX5_firstSale 26 = .ok (.goto 4, 3) := by decide +kernel
theorem dX5_firstSale_29 : decode cX5_firstSale 29 = .ok (.iconst 0, 1) := by decide +kernel
theorem dX5_firstSale_30 : decode cX5_firstSale 30 = .ok (.ireturn, 1) := by decide +kernel
set_option maxRecDepth 20000 in
theorem ggX5_exchanges_X5_isSale : GoodIn wsX5_exchanges wsX5_isSale := goodIn_r _ [6, 7, 8, 9, 5, 10, 16, 17, 18, 19, 20, 21, 22, 23, 24, 25, 26, 27, 28, 29, 30, 31, 32, 33, 34, 35, 36, 37, 38, 39, 40] (by decide +kernel) (by decide +kernel)
set_option maxRecDepth 20000 in
theorem gX5_exchanges_X5_isSale : GoodIn wsX5_exchanges (wsV RX5 83 RX5 yX5_isSale wsX5_isSale) := goodIn_app (goodIn_of _ (by decide +kernel)) ggX5_exchanges_X5_isSale
set_option maxRecDepth 20000 in
theorem ggX5_exchanges_X5_goes : GoodIn wsX5_exchanges wsX5_goes := goodIn_r _ [14, 15, 16, 17, 18, 19, 20, 21, 22, 23, 24, 25, 26, 27, 28, 29, 30, 31, 32, 33, 34, 35, 36, 37, 38, 39, 40] (by decide +kernel) (by decide +kernel)
set_option maxRecDepth 20000 in
theorem gX5_exchanges_X5_goes : GoodIn wsX5_exchanges (wsV RX5 91 RX5 yX5_goes wsX5_goes) := goodIn_app (goodIn_of _ (by decide +kernel)) ggX5_exchanges_X5_goes
theorem dX5_exchanges_0 : decode cX5_exchanges 0 = .ok (.aload_n 0, 1) := by decide +kernel
theorem dX5_exchanges_1 : decode cX5_exchanges 1 = .ok (.aload_n 0, 1) := by decide +kernel
theorem dX5_exchanges_2 : decode cX5_exchanges 2 = .ok (.iload_n 1, 1) := by decide +kernel
theorem dX5_exchanges_3 : decode cX5_exchanges 3 = .ok (.invokevirtual 83, 3) := by decide +kernel
theorem dX5_exchanges_6 : decode cX5_exchanges 6 = .ok (.ifCond .eq 7, 3) := by decide +kernel
theorem dX5_exchanges_9 : decode cX5_exchanges 9 = .ok (.iconst 0, 1) := by decide +kernel
theorem dX5_exchanges_10 : decode cX5_exchanges 10 = .ok (.goto 4, 3) := by decide +kernel
theorem dX5_exchanges_13 : decode cX5_exchanges 13 = .ok (.iconst 1, 1) := by decide +kernel
theorem dX5_exchanges_14 : decode cX5_exchanges 14 = .ok (.invokevirtual 91, 3) := by decide +kernel
theorem dX5_exchanges_17 : decode cX5_exchanges 17 = .ok (.ifCond .eq 12, 3) := by decide +kernel
theorem dX5_exchanges_20 : decode cX5_exchanges 20 = .ok (.aload_n 0, 1) := by decide +kernel
theorem dX5_exchanges_21 : decode cX5_exchanges 21 = .ok (.getfield 40, 3) := by decide +kernel
theorem dX5_exchanges_24 : decode cX5_exchanges 24 = .ok (.iload_n 1, 1) := by decide +kernel
theorem dX5_exchanges_25 : decode cX5_exchanges 25 = .ok (.iaload, 1) := by decide +kernel
theorem dX5_exchanges_26 : decode cX5_exchanges 26 = .ok (.goto 4, 3) := by decide +kernel
theorem dX5_exchanges_29 : decode cX5_exchanges 29 = .ok (.iconst 0, 1) := by decide +kernel
theorem dX5_exchanges_30 : decode cX5_exchanges 30 = .ok (.ireturn, 1) := by decide +kernel
theorem dJ9_floorDiv_7cf53_0 : decode cJ9_floorDiv_7cf53 0 = .ok (.iload_n 0, 1) := by decide +kernel
theorem dJ9_floorDiv_7cf53_1 : decode cJ9_floorDiv_7cf53 1 = .ok (.iload_n 1, 1) := by decide +kernel
theorem dJ9_floorDiv_7cf53_2 : decode cJ9_floorDiv_7cf53 2 = .ok (.idiv, 1) := by decide +kernel
theorem dJ9_floorDiv_7cf53_3 : decode cJ9_floorDiv_7cf53 3 = .ok (.istore_n 2, 1) := by decide +kernel
theorem dJ9_floorDiv_7cf53_4 : decode cJ9_floorDiv_7cf53 4 = .ok (.iload_n 0, 1) := by decide +kernel
theorem dJ9_floorDiv_7cf53_5 : decode cJ9_floorDiv_7cf53 5 = .ok (.iload_n 1, 1) := by decide +kernel
theorem dJ9_floorDiv_7cf53_6 : decode cJ9_floorDiv_7cf53 6 = .ok (.ixor, 1) := by decide +kernel
theorem dJ9_floorDiv_7cf53_7 : decode cJ9_floorDiv_7cf53 7 = .ok (.ifCond .ge 14, 3) := by decide +kernel
theorem dJ9_floorDiv_7cf53_10 : decode cJ9_floorDiv_7cf53 10 = .ok (.iload_n 2, 1) := by decide +kernel
theorem dJ9_floorDiv_7cf53_11 : decode cJ9_floorDiv_7cf53 11 = .ok (.iload_n 1, 1) := by decide +kernel
theorem dJ9_floorDiv_7cf53_12 : decode cJ9_floorDiv_7cf53 12 = .ok (.imul, 1) := by decide +kernel
theorem dJ9_floorDiv_7cf53_13 : decode cJ9_floorDiv_7cf53 13 = .ok (.iload_n 0, 1) := by decide +kernel
theorem dJ9_floorDiv_7cf53_14 : decode cJ9_floorDiv_7cf53 14 = .ok (.if_icmp .eq 7, 3) := by decide +kernel
theorem dJ9_floorDiv_7cf53_17 : decode cJ9_floorDiv_7cf53 17 = .ok (.iload_n 2, 1) := by decide +kernel
theorem dJ9_floorDiv_7cf53_18 : decode cJ9_floorDiv_7cf53 18 = .ok (.iconst 1, 1) := by decide +kernel
theorem dJ9_floorDiv_7cf53_19 : decode cJ9_floorDiv_7cf53 19 = .ok (.isub, 1) := by decide +kernel
theorem dJ9_floorDiv_7cf53_20 : decode cJ9_floorDiv_7cf53 20 = .ok (.ireturn, 1) := by decide +kernel
theorem dJ9_floorDiv_7cf53_21 : decode cJ9_floorDiv_7cf53 21 = .ok (.iload_n 2, 1) := by decide +kernel
theorem dJ9_floorDiv_7cf53_22 : decode cJ9_floorDiv_7cf53 22 = .ok (.ireturn, 1) := by decide +kernel
theorem dJ9_max_7cf53_0 : decode cJ9_max_7cf53 0 = .ok (.iload_n 0, 1) := by decide +kernel
theorem dJ9_max_7cf53_1 : decode cJ9_max_7cf53 1 = .ok (.iload_n 1, 1) := by decide +kernel
theorem dJ9_max_7cf53_2 : decode cJ9_max_7cf53 2 = .ok (.if_icmp .lt 7, 3) := by decide +kernel
theorem dJ9_max_7cf53_5 : decode cJ9_max_7cf53 5 = .ok (.iload_n 0, 1) := by decide +kernel
theorem dJ9_max_7cf53_6 : decode cJ9_max_7cf53 6 = .ok (.goto 4, 3) := by decide +kernel
theorem dJ9_max_7cf53_9 : decode cJ9_max_7cf53 9 = .ok (.iload_n 1, 1) := by decide +kernel
theorem dJ9_max_7cf53_10 : decode cJ9_max_7cf53 10 = .ok (.ireturn, 1) := by decide +kernel
set_option maxRecDepth 20000 in
theorem ggL_setProduct_X4_setProduct : GoodIn wsL_setProduct wsX4_setProduct := goodIn_ca (goodIn_r _ [6, 7, 8, 9, 10, 11, 12, 13, 14, 15, 5, 16, 17, 18, 19, 20, 21, 22, 23, 24, 25, 26, 27, 28, 29, 30] (by decide +kernel) (by decide +kernel)) (goodIn_sub (fun _ h => List.mem_cons_of_mem _ (List.mem_append_right _ h)) (by decide +kernel))
set_option maxRecDepth 20000 in
theorem gL_setProduct_X4_setProduct : GoodIn wsL_setProduct (wsV RL 7 RX4 yX4_setProduct wsX4_setProduct) := goodIn_app (goodIn_of _ (by decide +kernel)) ggL_setProduct_X4_setProduct
