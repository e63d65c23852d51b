theorem dX5_weigh_21 : decode cX5_weigh 21 = .ok (.iconst 0, 1) := by decide +kernel
theorem dX5_weigh_22 : decode cX5_weigh 22 = .ok (.putfield 48, 3) := by decide +kernel
theorem dX5_weigh_25 : decode cX5_weigh 25 = .ok (.aload_n 0, 1) := by decide +kernel
theorem dX5_weigh_26 : decode cX5_weigh 26 = .ok (.getfield 48, 3) := by decide +kernel
theorem dX5_weigh_29 : decode cX5_weigh 29 = .ok (.ifCond .le 5, 3) := by decide +kernel
theorem dX5_weigh_32 : decode cX5_weigh 32 = .ok (.iconst 0, 1) := by decide +kernel
theorem dX5_weigh_33 : decode cX5_weigh 33 = .ok (.ireturn, 1) := by decide +kernel
theorem dX5_weigh_34 : decode cX5_weigh 34 = .ok (.aload_n 0, 1) := by decide +kernel
theorem dX5_weigh_35 : decode cX5_weigh 35 = .ok (.getfield 13, 3) := by decide +kernel
theorem dX5_weigh_38 : decode cX5_weigh 38 = .ok (.bipush 40, 2) := by decide +kernel
theorem dX5_weigh_40 : decode cX5_weigh 40 = .ok (.iload_n 1, 1) := by decide +kernel
theorem dX5_weigh_41 : decode cX5_weigh 41 = .ok (.imul, 1) := by decide +kernel
theorem dX5_weigh_42 : decode cX5_weigh 42 = .ok (.iload_n 2, 1) := by decide +kernel
theorem dX5_weigh_43 : decode cX5_weigh 43 = .ok (.iadd, 1) := by decide +kernel
theorem dX5_weigh_44 : decode cX5_weigh 44 = .ok (.iaload, 1) := by decide +kernel
theorem dX5_weigh_45 : decode cX5_weigh 45 = .ok (.istore 4, 2) := by decide +kernel
theorem dX5_weigh_47 : decode cX5_weigh 47 = .ok (.aload_n 0, 1) := by decide +kernel
theorem dX5_weigh_48 : decode cX5_weigh 48 = .ok (.iload_n 3, 1) := by decide +kernel
theorem dX5_weigh_49 : decode cX5_weigh 49 = .ok (.ifCond .lt 21, 3) := by decide +kernel
theorem dX5_weigh_52 : decode cX5_weigh 52 = .ok (.aload_n 0, 1) := by decide +kernel
theorem dX5_weigh_53 : decode cX5_weigh 53 = .ok (.invokevirtual 64, 3) := by decide +kernel
theorem dX5_weigh_56 : decode cX5_weigh 56 = .ok (.iload 4, 2) := by decide +kernel
theorem dX5_weigh_58 : decode cX5_weigh 58 = .ok (.i2l, 1) := by decide +kernel
theorem dX5_weigh_59 : decode cX5_weigh 59 = .ok (.lsub, 1) := by decide +kernel
theorem dX5_weigh_60 : decode cX5_weigh 60 = .ok (.iload_n 3, 1) := by decide +kernel
theorem dX5_weigh_61 : decode cX5_weigh 61 = .ok (.i2l, 1) := by decide +kernel
theorem dX5_weigh_62 : decode cX5_weigh 62 = .ok (.ladd, 1) := by decide +kernel
theorem dX5_weigh_63 : decode cX5_weigh 63 = .ok (.ldc2_w 68, 3) := by decide +kernel
theorem dX5_weigh_66 : decode cX5_weigh 66 = .ok (.lcmp, 1) := by decide +kernel
theorem dX5_weigh_67 : decode cX5_weigh 67 = .ok (.ifCond .lt 7, 3) := by decide +kernel
theorem dX5_weigh_70 : decode cX5_weigh 70 = .ok (.iconst 2, 1) := by decide +kernel
theorem dX5_weigh_71 : decode cX5_weigh 71 = .ok (.goto 4, 3) := by decide +kernel
theorem dX5_weigh_74 : decode cX5_weigh 74 = .ok (.iconst 0, 1) := by decide +kernel
theorem dX5_weigh_75 : decode cX5_weigh 75 = .ok (.putfield 48, 3) := by decide +kernel
theorem dX5_weigh_78 : decode cX5_weigh 78 = .ok (.aload_n 0, 1) := by decide +kernel
theorem dX5_weigh_79 : decode cX5_weigh 79 = .ok (.getfield 48, 3) := by decide +kernel
theorem dX5_weigh_82 : decode cX5_weigh 82 = .ok (.ifCond .le 5, 3) := by decide +kernel
theorem dX5_weigh_85 : decode cX5_weigh 85 = .ok (.iconst 0, 1) := by decide +kernel
theorem dX5_weigh_86 : decode cX5_weigh 86 = .ok (.ireturn, 1) := by decide +kernel
theorem dX5_weigh_87 : decode cX5_weigh 87 = .ok (.aload_n 0, 1) := by decide +kernel
theorem dX5_weigh_88 : decode cX5_weigh 88 = .ok (.getfield 13, 3) := by decide +kernel
theorem dX5_weigh_91 : decode cX5_weigh 91 = .ok (.bipush 40, 2) := by decide +kernel
theorem dX5_weigh_93 : decode cX5_weigh 93 = .ok (.iload_n 1, 1) := by decide +kernel
theorem dX5_weigh_94 : decode cX5_weigh 94 = .ok (.imul, 1) := by decide +kernel
theorem dX5_weigh_95 : decode cX5_weigh 95 = .ok (.iload_n 2, 1) := by decide +kernel
theorem dX5_weigh_96 : decode cX5_weigh 96 = .ok (.iadd, 1) := by decide +kernel
theorem dX5_weigh_97 : decode cX5_weigh 97 = .ok (.iload_n 3, 1) := by decide +kernel
theorem dX5_weigh_98 : decode cX5_weigh 98 = .ok (.iastore, 1) := by decide +kernel
theorem dX5_weigh_99 : decode cX5_weigh 99 = .ok (.aload_n 0, 1) := by decide +kernel
theorem dX5_weigh_100 : decode cX5_weigh 100 = .ok (.getfield 13, 3) := by decide +kernel
theorem dX5_weigh_103 : decode cX5_weigh 103 = .ok (.bipush 40, 2) := by decide +kernel
theorem dX5_weigh_105 : decode cX5_weigh 105 = .ok (.iload_n 2, 1) := by decide +kernel
theorem dX5_weigh_106 : decode cX5_weigh 106 = .ok (.imul, 1) := by decide +kernel
theorem dX5_weigh_107 : decode cX5_weigh 107 = .ok (.iload_n 1, 1) := by decide +kernel
theorem dX5_weigh_108 : decode cX5_weigh 108 = .ok (.iadd, 1) := by decide +kernel
theorem dX5_weigh_109 : decode cX5_weigh 109 = .ok (.iload_n 3, 1) := by decide +kernel
theorem dX5_weigh_110 : decode cX5_weigh 110 = .ok (.iastore, 1) := by decide +kernel
theorem dX5_weigh_111 : decode cX5_weigh 111 = .ok (.aload_n 0, 1) := by decide +kernel
theorem dX5_weigh_112 : decode cX5_weigh 112 = .ok (.invokevirtual 57, 3) := by decide +kernel
theorem dX5_weigh_115 : decode cX5_weigh 115 = .ok (.iload 4, 2) := by decide +kernel
theorem dX5_weigh_117 : decode cX5_weigh 117 = .ok (.ireturn, 1) := by decide +kernel
theorem dX5_first_0 : decode cX5_first 0 = .ok (.aload_n 0, 1) := by decide +kernel
theorem dX5_first_1 : decode cX5_first 1 = .ok (.aload_n 0, 1) := by decide +kernel
theorem dX5_first_2 : decode cX5_first 2 = .ok (.getfield 7, 3) := by decide +kernel
theorem dX5_first_5 : decode cX5_first 5 = .ok (.putfield 70, 3) := by decide +kernel
theorem dX5_first_8 : decode cX5_first 8 = .ok (.iconst 0, 1) := by decide +kernel
theorem dX5_first_9 : decode cX5_first 9 = .ok (.istore_n 1, 1) := by decide +kernel
theorem dX5_first_10 : decode cX5_first 10 = .ok (.iload_n 1, 1) := by decide +kernel
theorem dX5_first_11 : decode cX5_first 11 = .ok (.aload_n 0, 1) := by decide +kernel
theorem dX5_first_12 : decode cX5_first 12 = .ok (.getfield 7, 3) := by decide +kernel
theorem dX5_first_15 : decode cX5_first 15 = .ok (.if_icmp .ge 48, 3) := by decide +kernel
theorem dX5_first_18 : decode cX5_first 18 = .ok (.iconst 0, 1) := by decide +kernel
theorem dX5_first_19 : decode cX5_first 19 = .ok (.istore_n 2, 1) := by decide +kernel
theorem dX5_first_20 : decode cX5_first 20 = .ok (.iload_n 2, 1) := by decide +kernel
theorem dX5_first_21 : decode cX5_first 21 = .ok (.aload_n 0, 1) := by decide +kernel
theorem dX5_first_22 : decode cX5_first 22 = .ok (.getfield 7, 3) := by decide +kernel
theorem dX5_first_25 : decode cX5_first 25 = .ok (.if_icmp .ge 32, 3) := by decide +kernel
theorem dX5_first_28 : decode cX5_first 28 = .ok (.aload_n 0, 1) := by decide +kernel
theorem dX5_first_29 : decode cX5_first 29 = .ok (.getfield 20, 3) := by decide +kernel
theorem dX5_first_32 : decode cX5_first 32 = .ok (.bipush 40, 2) := by decide +kernel
theorem dX5_first_34 : decode cX5_first 34 = .ok (.iload_n 1, 1) := by decide +kernel
theorem dX5_first_35 : decode cX5_first 35 = .ok (.imul, 1) := by decide +kernel
theorem dX5_first_36 : decode cX5_first 36 = .ok (.iload_n 2, 1) := by decide +kernel
theorem dX5_first_37 : decode cX5_first 37 = .ok (.iadd, 1) := by decide +kernel
theorem dX5_first_38 : decode cX5_first 38 = .ok (.aload_n 0, 1) := by decide +kernel
theorem dX5_first_39 : decode cX5_first 39 = .ok (.getfield 13, 3) := by decide +kernel
theorem dX5_first_42 : decode cX5_first 42 = .ok (.bipush 40, 2) := by decide +kernel
theorem dX5_first_44 : decode cX5_first 44 = .ok (.iload_n 1, 1) := by decide +kernel
theorem dX5_first_45 : decode cX5_first 45 = .ok (.imul, 1) := by decide +kernel
theorem dX5_first_46 : decode cX5_first 46 = .ok (.iload_n 2, 1) := by decide +kernel
theorem dX5_first_47 : decode cX5_first 47 = .ok (.iadd, 1) := by decide +kernel
theorem dX5_first_48 : decode cX5_first 48 = .ok (.iaload, 1) := by decide +kernel
theorem dX5_first_49 : decode cX5_first 49 = .ok (.i2l, 1) := by decide +kernel
theorem dX5_first_50 : decode cX5_first 50 = .ok (.lastore, 1) := by decide +kernel
theorem dX5_first_51 : decode cX5_first 51 = .ok (.iinc 2 1, 3) := by decide +kernel
theorem dX5_first_54 : decode cX5_first 54 = .ok (.goto (-34), 3) := by decide +kernel
theorem dX5_first_57 : decode cX5_first 57 = .ok (.iinc 1 1, 3) := by decide +kernel
theorem dX5_first_60 : decode cX5_first 60 = .ok (.goto (-50), 3) := by decide +kernel
theorem dX5_first_63 : decode cX5_first 63 = .ok (.return_, 1) := by decide +kernel
theorem dX5_degree_0 : decode cX5_degree 0 = .ok (.aload_n 0, 1) := by decide +kernel
theorem dX5_degree_1 : decode cX5_degree 1 = .ok (.getfield 20, 3) := by decide +kernel
theorem dX5_degree_4 : decode cX5_degree 4 = .ok (.bipush 40, 2) := by decide +kernel
theorem dX5_degree_6 : decode cX5_degree 6 = .ok (.iload_n 1, 1) := by decide +kernel
theorem dX5_degree_7 : decode cX5_degree 7 = .ok (.imul, 1) := by decide +kernel
theorem dX5_degree_8 : decode cX5_degree 8 = .ok (.iload_n 1, 1) := by decide +kernel
theorem dX5_degree_9 : decode cX5_degree 9 = .ok (.iadd, 1) := by decide +kernel
theorem dX5_degree_10 : decode cX5_degree 10 = .ok (.laload, 1) := by decide +kernel
theorem dX5_degree_11 : decode cX5_degree 11 = .ok (.lstore_n 2, 1) := by decide +kernel
theorem dX5_degree_12 : decode cX5_degree 12 = .ok (.iconst 0, 1) := by decide +kernel
theorem dX5_degree_13 : decode cX5_degree 13 = .ok (.istore 4, 2) := by decide +kernel
theorem dX5_degree_15 : decode cX5_degree 15 = .ok (.iload 4, 2) := by decide +kernel
theorem dX5_degree_17 : decode cX5_degree 17 = .ok (.aload_n 0, 1) := by decide +kernel
theorem dX5_degree_18 : decode cX5_degree 18 = .ok (.getfield 70, 3) := by decide +kernel
theorem dX5_degree_21 : decode cX5_degree 21 = .ok (.if_icmp .ge 24, 3) := by decide +kernel
theorem dX5_degree_24 : decode cX5_degree 24 = .ok (.lload_n 2, 1) := by decide +kernel
theorem dX5_degree_25 : decode cX5_degree 25 = .ok (.aload_n 0, 1) := by decide +kernel
theorem dX5_degree_26 : decode cX5_degree 26 = .ok (.getfield 20, 3) := by decide +kernel
theorem dX5_degree_29 : decode cX5_degree 29 = .ok (.bipush 40, 2) := by decide +kernel
theorem dX5_degree_31 : decode cX5_degree 31 = .ok (.iload_n 1, 1) := by decide +kernel
theorem dX5_degree_32 : decode cX5_degree 32 = .ok (.imul, 1) := by decide +kernel
theorem dX5_degree_33 : decode cX5_degree 33 = .ok (.iload 4, 2) := by decide +kernel
theorem dX5_degree_35 : decode cX5_degree 35 = .ok (.iadd, 1) := by decide +kernel
theorem dX5_degree_36 : decode cX5_degree 36 = .ok (.laload, 1) := by decide +kernel
theorem dX5_degree_37 : decode cX5_degree 37 = .ok (.ladd, 1) := by decide +kernel
theorem dX5_degree_38 : decode cX5_degree 38 = .ok (.lstore_n 2, 1) := by decide +kernel
theorem dX5_degree_39 : decode cX5_degree 39 = .ok (.iinc 4 1, 3) := by decide +kernel
theorem dX5_degree_42 : decode cX5_degree 42 = .ok (.goto (-27), 3) := by decide +kernel
theorem dX5_degree_45 : decode cX5_degree 45 = .ok (.lload_n 2, 1) := by decide +kernel
theorem dX5_degree_46 : decode cX5_degree 46 = .ok (.lreturn, 1) := by decide +kernel
set_option maxRecDepth 20000 in
theorem ggX5_prepare_X5_sum : GoodIn wsX5_prepare wsX5_sum := goodIn_r _ [8, 2, 9, 14, 15, 16, 17, 18, 19, 20, 21, 22, 23, 24, 25, 26, 27, 28, 29, 30] (by decide +kernel) (by decide +kernel)
set_option maxRecDepth 20000 in
theorem gX5_prepare_X5_sum : GoodIn wsX5_prepare (wsV RX5 73 RX5 yX5_sum wsX5_sum) := goodIn_app (goodIn_of _ (by decide +kernel)) ggX5_prepare_X5_sum
set_option maxRecDepth 20000 in
theorem ggX5_prepare_X5_degree : GoodIn wsX5_prepare wsX5_degree := goodIn_r _ [13, 9, 2, 14, 15, 16, 17, 18, 19, 20, 21, 22, 23, 24, 25, 26, 27, 28, 29, 30] (by decide +kernel) (by decide +kernel)
set_option maxRecDepth 20000 in
theorem gX5_prepare_X5_degree : GoodIn wsX5_prepare (wsV RX5 80 RX5 yX5_degree wsX5_degree) := goodIn_app (goodIn_of _ (by decide +kernel)) ggX5_prepare_X5_degree
theorem dX5_prepare_0 : decode cX5_prepare 0 = .ok (.aload_n 0, 1) := by decide +kernel
theorem dX5_prepare_1 : decode cX5_prepare 1 = .ok (.aload_n 0, 1) := by decide +kernel
theorem dX5_prepare_2 : decode cX5_prepare 2 = .ok (.invokevirtual 73, 3) := by decide +kernel
theorem dX5_prepare_5 : decode cX5_prepare 5 = .ok (.putfield 76, 3) := by decide +kernel
theorem dX5_prepare_8 : decode cX5_prepare 8 = .ok (.iconst 0, 1) := by decide +kernel
theorem dX5_prepare_9 : decode cX5_prepare 9 = .ok (.istore_n 1, 1) := by decide +kernel
theorem dX5_prepare_10 : decode cX5_prepare 10 = .ok (.iload_n 1, 1) := by decide +kernel
theorem dX5_prepare_11 : decode cX5_prepare 11 = .ok (.aload_n 0, 1) := by decide +kernel
theorem dX5_prepare_12 : decode cX5_prepare 12 = .ok (.getfield 70, 3) := by decide +kernel
theorem dX5_prepare_15 : decode cX5_prepare 15 = .ok (.if_icmp .ge 20, 3) := by decide +kernel
theorem dX5_prepare_18 : decode cX5_prepare 18 = .ok (.aload_n 0, 1) := by decide +kernel
theorem dX5_prepare_19 : decode cX5_prepare 19 = .ok (.getfield 45, 3) := by decide +kernel
theorem dX5_prepare_22 : decode cX5_prepare 22 = .ok (.iload_n 1, 1) := by decide +kernel
theorem dX5_prepare_23 : decode cX5_prepare 23 = .ok (.aload_n 0, 1) := by decide +kernel
theorem dX5_prepare_24 : decode cX5_prepare 24 = .ok (.iload_n 1, 1) := by decide +kernel
theorem dX5_prepare_25 : decode cX5_prepare 25 = .ok (.invokevirtual 80, 3) := by decide +kernel
theorem dX5_prepare_28 : decode cX5_prepare 28 = .ok (.lastore, 1) := by decide +kernel
theorem dX5_prepare_29 : decode cX5_prepare 29 = .ok (.iinc 1 1, 3) := by decide +kernel
theorem dX5_prepare_32 : decode cX5_prepare 32 = .ok (.goto (-22), 3) := by decide +kernel
theorem dX5_prepare_35 : decode cX5_prepare 35 = .ok (.return_, 1) := by decide +kernel
theorem dX5_sum_0 : decode cX5_sum 0 = .ok (.lconst 0, 1) := by decide +kernel
theorem dX5_sum_1 : decode cX5_sum 1 = .ok (.lstore_n 1, 1) := by decide +kernel
theorem dX5_sum_2 : decode cX5_sum 2 = .ok (.iconst 0, 1) := by decide +kernel
theorem dX5_sum_3 : decode cX5_sum 3 = .ok (.istore_n 3, 1) := by decide +kernel
theorem dX5_sum_4 : decode cX5_sum 4 = .ok (.iload_n 3, 1) := by decide +kernel
theorem dX5_sum_5 : decode cX5_sum 5 = .ok (.aload_n 0, 1) := by decide +kernel
theorem dX5_sum_6 : decode cX5_sum 6 = .ok (.getfield 70, 3) := by decide +kernel
theorem dX5_sum_9 : decode cX5_sum 9 = .ok (.if_icmp .ge 39, 3) := by decide +kernel
theorem dX5_sum_12 : decode cX5_sum 12 = .ok (.iconst 0, 1) := by decide +kernel
theorem dX5_sum_13 : decode cX5_sum 13 = .ok (.istore 4, 2) := by decide +kernel
theorem dX5_sum_15 : decode cX5_sum 15 = .ok (.iload 4, 2) := by decide +kernel
theorem dX5_sum_17 : decode cX5_sum 17 = .ok (.iload_n 3, 1) := by decide +kernel
theorem dX5_sum_18 : decode cX5_sum 18 = .ok (.if_icmp .gt 24, 3) := by decide +kernel
theorem dX5_sum_21 : decode cX5_sum 21 = .ok (.lload_n 1, 1) := by decide +kernel
theorem dX5_sum_22 : decode cX5_sum 22 = .ok (.aload_n 0, 1) := by decide +kernel
theorem dX5_sum_23 : decode cX5_sum 23 = .ok (.getfield 20, 3) := by decide +kernel
theorem dX5_sum_26 : decode cX5_sum 26 = .ok (.bipush 40, 2) := by decide +kernel
theorem dX5_sum_28 : decode cX5_sum 28 = .ok (.iload_n 3, 1) := by decide +kernel
theorem dX5_sum_29 : decode cX5_sum 29 = .ok (.imul, 1) := by decide +kernel
theorem dX5_sum_30 : decode cX5_sum 30 = .ok (.iload 4, 2) := by decide +kernel
theorem dX5_sum_32 : decode cX5_sum 32 = .ok (.iadd, 1) := by decide +kernel
theorem dX5_sum_33 : decode cX5_sum 33 = .ok (.laload, 1) := by decide +kernel
theorem dX5_sum_34 : decode cX5_sum 34 = .ok (.ladd, 1) := by decide +kernel
theorem dX5_sum_35 : decode cX5_sum 35 = .ok (.lstore_n 1, 1) := by decide +kernel
theorem dX5_sum_36 : decode cX5_sum 36 = .ok (.iinc 4 1, 3) := by decide +kernel
theorem dX5_sum_39 : decode cX5_sum 39 = .ok (.goto (-24), 3) := by decide +kernel
theorem dX5_sum_42 : decode cX5_sum 42 = .ok (.iinc 3 1, 3) := by decide +kernel
theorem dX5_sum_45 : decode cX5_sum 45 = .ok (.goto (-41), 3) := by decide +kernel
theorem dX5_sum_48 : decode cX5_sum 48 = .ok (.lload_n 1, 1) := by decide +kernel
theorem dX5_sum_49 : decode cX5_sum 49 = .ok (.lreturn, 1) := by decide +kernel
theorem dX5_modularityNow_0 : decode cX5_modularityNow 0 = .ok (.lconst 0, 1) := by decide +kernel
theorem dX5_modularityNow_1 : decode cX5_modularityNow 1 = .ok (.lstore_n 1, 1) := by decide +kernel
theorem dX5_modularityNow_2 : decode cX5_modularityNow 2 = .ok (.iconst 0, 1) := by decide +kernel
theorem dX5_modularityNow_3 : decode cX5_modularityNow 3 = .ok (.istore_n 3, 1) := by decide +kernel
theorem dX5_modularityNow_4 : decode cX5_modularityNow 4 = .ok (.iload_n 3, 1) := by decide +kernel
theorem dX5_modularityNow_5 : decode cX5_modularityNow 5 = .ok (.bipush 40, 2) := by decide +kernel
theorem dX5_modularityNow_7 : decode cX5_modularityNow 7 = .ok (.if_icmp .ge 125, 3) := by decide +kernel
theorem dX5_modularityNow_10 : decode cX5_modularityNow 10 = .ok (.lconst 0, 1) := by decide +kernel
theorem dX5_modularityNow_11 : decode cX5_modularityNow 11 = .ok (.lstore 4, 2) := by decide +kernel
theorem dX5_modularityNow_13 : decode cX5_modularityNow 13 = .ok (.lconst 0, 1) := by decide +kernel
theorem dX5_modularityNow_14 : decode cX5_modularityNow 14 = .ok (.lstore 6, 2) := by decide +kernel
theorem dX5_modularityNow_16 : decode cX5_modularityNow 16 = .ok (.iconst 0, 1) := by decide +kernel
theorem dX5_modularityNow_17 : decode cX5_modularityNow 17 = .ok (.istore 8, 2) := by decide +kernel
theorem dX5_modularityNow_19 : decode cX5_modularityNow 19 = .ok (.iload 8, 2) := by decide +kernel
theorem dX5_modularityNow_21 : decode cX5_modularityNow 21 = .ok (.aload_n 0, 1) := by decide +kernel
theorem dX5_modularityNow_22 : decode cX5_modularityNow 22 = .ok (.getfield 70, 3) := by decide +kernel
theorem dX5_modularityNow_25 : decode cX5_modularityNow 25 = .ok (.if_icmp .ge 81, 3) := by decide +kernel
theorem dX5_modularityNow_28 : decode cX5_modularityNow 28 = .ok (.aload_n 0, 1) := by decide +kernel
theorem dX5_modularityNow_29 : decode cX5_modularityNow 29 = .ok (.getfield 24, 3) := by decide +kernel
theorem dX5_modularityNow_32 : decode cX5_modularityNow 32 = .ok (.iload 8, 2) := by decide +kernel
theorem dX5_modularityNow_34 : decode cX5_modularityNow 34 = .ok (.iaload, 1) := by decide +kernel
theorem dX5_modularityNow_35 : decode cX5_modularityNow 35 = .ok (.iload_n 3, 1) := by decide +kernel
theorem dX5_modularityNow_36 : decode cX5_modularityNow 36 = .ok (.if_icmp .ne 64, 3) := by decide +kernel
theorem dX5_modularityNow_39 : decode cX5_modularityNow 39 = .ok (.lload 6, 2) := by decide +kernel
theorem dX5_modularityNow_41 : decode cX5_modularityNow 41 = .ok (.aload_n 0, 1) := by decide +kernel
theorem dX5_modularityNow_42 : decode cX5_modularityNow 42 = .ok (.getfield 45, 3) := by decide +kernel
theorem dX5_modularityNow_45 : decode cX5_modularityNow 45 = .ok (.iload 8, 2) := by decide +kernel
theorem dX5_modularityNow_47 : decode cX5_modularityNow 47 = .ok (.laload, 1) := by decide +kernel
theorem dX5_modularityNow_48 : decode cX5_modularityNow 48 = .ok (.ladd, 1) := by decide +kernel
theorem dX5_modularityNow_49 : decode cX5_modularityNow 49 = .ok (.lstore 6, 2) := by decide +kernel
theorem dX5_modularityNow_51 : decode cX5_modularityNow 51 = .ok (.iconst 0, 1) := by decide +kernel
theorem dX5_modularityNow_52 : decode cX5_modularityNow 52 = .ok (.istore 9, 2) := by decide +kernel
theorem dX5_modularityNow_54 : decode cX5_modularityNow 54 = .ok (.iload 9, 2) := by decide +kernel
theorem dX5_modularityNow_56 : decode cX5_modularityNow 56 = .ok (.iload 8, 2) := by decide +kernel
theorem dX5_modularityNow_58 : decode cX5_modularityNow 58 = .ok (.if_icmp .gt 42, 3) := by decide +kernel
theorem dX5_modularityNow_61 : decode cX5_modularityNow 61 = .ok (.lload 4, 2) := by decide +kernel
theorem dX5_modularityNow_63 : decode cX5_modularityNow 63 = .ok (.aload_n 0, 1) := by decide +kernel
theorem dX5_modularityNow_64 : decode cX5_modularityNow 64 = .ok (.getfield 24, 3) := by decide +kernel
theorem dX5_modularityNow_67 : decode cX5_modularityNow 67 = .ok (.iload 9, 2) := by decide +kernel
theorem dX5_modularityNow_69 : decode cX5_modularityNow 69 = .ok (.iaload, 1) := by decide +kernel
theorem dX5_modularityNow_70 : decode cX5_modularityNow 70 = .ok (.iload_n 3, 1) := by decide +kernel
theorem dX5_modularityNow_71 : decode cX5_modularityNow 71 = .ok (.if_icmp .ne 19, 3) := by decide +kernel
theorem dX5_modularityNow_74 : decode cX5_modularityNow 74 = .ok (.aload_n 0, 1) := by decide +kernel
theorem dX5_modularityNow_75 : decode cX5_modularityNow 75 = .ok (.getfield 20, 3) := by decide +kernel
theorem dX5_modularityNow_78 : decode cX5_modularityNow 78 = .ok (.bipush 40, 2) := by decide +kernel
theorem dX5_modularityNow_80 : decode cX5_modularityNow 80 = .ok (.iload 8, 2) := by decide +kernel
theorem dX5_modularityNow_82 : decode cX5_modularityNow 82 = .ok (.imul, 1) := by decide +kernel
theorem dX5_modularityNow_83 : decode cX5_modularityNow 83 = .ok (.iload 9, 2) := by decide +kernel
theorem dX5_modularityNow_85 : decode cX5_modularityNow 85 = .ok (.iadd, 1) := by decide +kernel
theorem dX5_modularityNow_86 : decode cX5_modularityNow 86 = .ok (.laload, 1) := by decide +kernel
theorem dX5_modularityNow_87 : decode cX5_modularityNow 87 = .ok (.goto 4, 3) := by decide +kernel
theorem dX5_modularityNow_90 : decode cX5_modularityNow 90 = .ok (.lconst 0, 1) := by decide +kernel
theorem dX5_modularityNow_91 : decode cX5_modularityNow 91 = .ok (.ladd, 1) := by decide +kernel
theorem dX5_modularityNow_92 : decode cX5_modularityNow 92 = .ok (.lstore 4, 2) := by decide +kernel
theorem dX5_modularityNow_94 : decode cX5_modularityNow 94 = .ok (.iinc 9 1, 3) := by decide +kernel
theorem dX5_modularityNow_97 : decode cX5_modularityNow 97 = .ok (.goto (-43), 3) := by decide +kernel
theorem dX5_modularityNow_100 : decode cX5_modularityNow 100 = .ok (.iinc 8 1, 3) := by decide +kernel
theorem dX5_modularityNow_103 : decode cX5_modularityNow 103 = .ok (.goto (-84), 3) := by decide +kernel
theorem dX5_modularityNow_106 : decode cX5_modularityNow 106 = .ok (.lload_n 1, 1) := by decide +kernel
theorem dX5_modularityNow_107 : decode cX5_modularityNow 107 = .ok (.ldc2_w 84, 3) := by decide +kernel
theorem dX5_modularityNow_110 : decode cX5_modularityNow 110 = .ok (.aload_n 0, 1) := by decide +kernel
theorem dX5_modularityNow_111 : decode cX5_modularityNow 111 = .ok (.getfield 76, 3) := by decide +kernel
theorem dX5_modularityNow_114 : decode cX5_modularityNow 114 = .ok (.lmul, 1) := by decide +kernel
theorem dX5_modularityNow_115 : decode cX5_modularityNow 115 = .ok (.lload 4, 2) := by decide +kernel
theorem dX5_modularityNow_117 : decode cX5_modularityNow 117 = .ok (.lmul, 1) := by decide +kernel
theorem dX5_modularityNow_118 : decode cX5_modularityNow 118 = .ok (.lload 6, 2) := by decide +kernel
theorem dX5_modularityNow_120 : decode cX5_modularityNow 120 = .ok (.lload 6, 2) := by decide +kernel
theorem dX5_modularityNow_122 : decode cX5_modularityNow 122 = .ok (.lmul, 1) := by decide +kernel
theorem dX5_modularityNow_123 : decode cX5_modularityNow 123 = .ok (.lsub, 1) := by decide +kernel
theorem dX5_modularityNow_124 : decode cX5_modularityNow 124 = .ok (.ladd, 1) := by decide +kernel
theorem dX5_modularityNow_125 : decode cX5_modularityNow 125 = .ok (.lstore_n 1, 1) := by decide +kernel
theorem dX5_modularityNow_126 : decode cX5_modularityNow 126 = .ok (.iinc 3 1, 3) := by decide +kernel
theorem dX5_modularityNow_129 : decode cX5_modularityNow 129 = .ok (.goto (-125), 3) := by decide +kernel
theorem dX5_modularityNow_132 : decode cX5_modularityNow 132 = .ok (.lload_n 1, 1) := by decide +kernel
theorem dX5_modularityNow_133 : decode cX5_modularityNow 133 = .ok (.lreturn, 1) := by decide +kernel
theorem dX5_gainOf_0 : decode cX5_gainOf 0 = .ok (.aload_n 0, 1) := by decide +kernel
theorem dX5_gainOf_1 : decode cX5_gainOf 1 = .ok (.getfield 24, 3) := by decide +kernel
theorem dX5_gainOf_4 : decode cX5_gainOf 4 = .ok (.iload_n 1, 1) := by decide +kernel
theorem dX5_gainOf_5 : decode cX5_gainOf 5 = .ok (.iaload, 1) := by decide +kernel
theorem dX5_gainOf_6 : decode cX5_gainOf 6 = .ok (.iload_n 2, 1) := by decide +kernel
theorem dX5_gainOf_7 : decode cX5_gainOf 7 = .ok (.if_icmp .ne 5, 3) := by decide +kernel
theorem dX5_gainOf_10 : decode cX5_gainOf 10 = .ok (.lconst 0, 1) := by decide +kernel
theorem dX5_gainOf_11 : decode cX5_gainOf 11 = .ok (.lreturn, 1) := by decide +kernel
theorem dX5_gainOf_12 : decode cX5_gainOf 12 = .ok (.lconst 0, 1) := by decide +kernel
theorem dX5_gainOf_13 : decode cX5_gainOf 13 = .ok (.lstore_n 3, 1) := by decide +kernel
theorem dX5_gainOf_14 : decode cX5_gainOf 14 = .ok (.lconst 0, 1) := by decide +kernel
theorem dX5_gainOf_15 : decode cX5_gainOf 15 = .ok (.lstore 5, 2) := by decide +kernel
theorem dX5_gainOf_17 : decode cX5_gainOf 17 = .ok (.lconst 0, 1) := by decide +kernel
theorem dX5_gainOf_18 : decode cX5_gainOf 18 = .ok (.lstore 7, 2) := by decide +kernel
theorem dX5_gainOf_20 : decode cX5_gainOf 20 = .ok (.lconst 0, 1) := by decide +kernel
theorem dX5_gainOf_21 : decode cX5_gainOf 21 = .ok (.lstore 9, 2) := by decide +kernel
theorem dX5_gainOf_23 : decode cX5_gainOf 23 = .ok (.iconst 0, 1) := by decide +kernel
theorem dX5_gainOf_24 : decode cX5_gainOf 24 = .ok (.istore 11, 2) := by decide +kernel
theorem dX5_gainOf_26 : decode cX5_gainOf 26 = .ok (.iload 11, 2) := by decide +kernel
theorem dX5_gainOf_28 : decode cX5_gainOf 28 = .ok (.aload_n 0, 1) := by decide +kernel
theorem dX5_gainOf_29 : decode cX5_gainOf 29 = .ok (.getfield 70, 3) := by decide +kernel
theorem dX5_gainOf_32 : decode cX5_gainOf 32 = .ok (.if_icmp .ge 98, 3) := by decide +kernel
theorem dX5_gainOf_35 : decode cX5_gainOf 35 = .ok (.iload 11, 2) := by decide +kernel
theorem dX5_gainOf_37 : decode cX5_gainOf 37 = .ok (.iload_n 1, 1) := by decide +kernel
theorem dX5_gainOf_38 : decode cX5_gainOf 38 = .ok (.if_icmp .eq 46, 3) := by decide +kernel
theorem dX5_gainOf_41 : decode cX5_gainOf 41 = .ok (.aload_n 0, 1) := by decide +kernel
theorem dX5_gainOf_42 : decode cX5_gainOf 42 = .ok (.getfield 24, 3) := by decide +kernel
theorem dX5_gainOf_45 : decode cX5_gainOf 45 = .ok (.iload 11, 2) := by decide +kernel
theorem dX5_gainOf_47 : decode cX5_gainOf 47 = .ok (.iaload, 1) := by decide +kernel
theorem dX5_gainOf_48 : decode cX5_gainOf 48 = .ok (.aload_n 0, 1) := by decide +kernel
theorem dX5_gainOf_49 : decode cX5_gainOf 49 = .ok (.getfield 24, 3) := by decide +kernel
theorem dX5_gainOf_52 : decode cX5_gainOf 52 = .ok (.iload_n 1, 1) := by decide +kernel
theorem dX5_gainOf_53 : decode cX5_gainOf 53 = .ok (.iaload, 1) := by decide +kernel
theorem dX5_gainOf_54 : decode cX5_gainOf 54 = .ok (.if_icmp .ne 30, 3) := by decide +kernel
theorem dX5_gainOf_57 : decode cX5_gainOf 57 = .ok (.lload_n 3, 1) := by decide +kernel
theorem dX5_gainOf_58 : decode cX5_gainOf 58 = .ok (.aload_n 0, 1) := by decide +kernel
theorem dX5_gainOf_59 : decode cX5_gainOf 59 = .ok (.getfield 20, 3) := by decide +kernel
theorem dX5_gainOf_62 : decode cX5_gainOf 62 = .ok (.bipush 40, 2) := by decide +kernel
theorem dX5_gainOf_64 : decode cX5_gainOf 64 = .ok (.iload_n 1, 1) := by decide +kernel
theorem dX5_gainOf_65 : decode cX5_gainOf 65 = .ok (.imul, 1) := by decide +kernel
theorem dX5_gainOf_66 : decode cX5_gainOf 66 = .ok (.iload 11, 2) := by decide +kernel
theorem dX5_gainOf_68 : decode cX5_gainOf 68 = .ok (.iadd, 1) := by decide +kernel
theorem dX5_gainOf_69 : decode cX5_gainOf 69 = .ok (.laload, 1) := by decide +kernel
theorem dX5_gainOf_70 : decode cX5_gainOf 70 = .ok (.ladd, 1) := by decide +kernel
theorem dX5_gainOf_71 : decode cX5_gainOf 71 = .ok (.lstore_n 3, 1) := by decide +kernel
theorem dX5_gainOf_72 : decode cX5_gainOf 72 = .ok (.lload 7, 2) := by decide +kernel
theorem dX5_gainOf_74 : decode cX5_gainOf 74 = .ok (.aload_n 0, 1) := by decide +kernel
theorem dX5_gainOf_75 : decode cX5_gainOf 75 = .ok (.getfield 45, 3) := by decide +kernel
theorem dX5_gainOf_78 : decode cX5_gainOf 78 = .ok (.iload 11, 2) := by decide +kernel
theorem dX5_gainOf_80 : decode cX5_gainOf 80 = .ok (.laload, 1) := by decide +kernel
theorem dX5_gainOf_81 : decode cX5_gainOf 81 = .ok (.ladd, 1) := by decide +kernel
theorem dX5_gainOf_82 : decode cX5_gainOf 82 = .ok (.lstore 7, 2) := by decide +kernel
theorem dX5_gainOf_84 : decode cX5_gainOf 84 = .ok (.aload_n 0, 1) := by decide +kernel
theorem dX5_gainOf_85 : decode cX5_gainOf 85 = .ok (.getfield 24, 3) := by decide +kernel
theorem dX5_gainOf_88 : decode cX5_gainOf 88 = .ok (.iload 11, 2) := by decide +kernel
theorem dX5_gainOf_90 : decode cX5_gainOf 90 = .ok (.iaload, 1) := by decide +kernel
theorem dX5_gainOf_91 : decode cX5_gainOf 91 = .ok (.iload_n 2, 1) := by decide +kernel
theorem dX5_gainOf_92 : decode cX5_gainOf 92 = .ok (.if_icmp .ne 32, 3) := by decide +kernel
theorem dX5_gainOf_95 : decode cX5_gainOf 95 = .ok (.lload 5, 2) := by decide +kernel
theorem dX5_gainOf_97 : decode cX5_gainOf 97 = .ok (.aload_n 0, 1) := by decide +kernel
theorem dX5_gainOf_98 : decode cX5_gainOf 98 = .ok (.getfield 20, 3) := by decide +kernel
theorem dX5_gainOf_101 : decode cX5_gainOf 101 = .ok (.bipush 40, 2) := by decide +kernel
theorem dX5_gainOf_103 : decode cX5_gainOf 103 = .ok (.iload_n 1, 1) := by decide +kernel
theorem dX5_gainOf_104 : decode cX5_gainOf 104 = .ok (.imul, 1) := by decide +kernel
theorem dX5_gainOf_105 : decode cX5_gainOf 105 = .ok (.iload 11, 2) := by decide +kernel
theorem dX5_gainOf_107 : decode cX5_gainOf 107 = .ok (.iadd, 1) := by decide +kernel
theorem dX5_gainOf_108 : decode cX5_gainOf 108 = .ok (.laload, 1) := by decide +kernel
theorem dX5_gainOf_109 : decode cX5_gainOf 109 = .ok (.ladd, 1) := by decide +kernel
theorem dX5_gainOf_110 : decode cX5_gainOf 110 = .ok (.lstore 5, 2) := by decide +kernel
theorem dX5_gainOf_112 : decode cX5_gainOf 112 = .ok (.lload 9, 2) := by decide +kernel
theorem dX5_gainOf_114 : decode cX5_gainOf 114 = .ok (.aload_n 0, 1) := by decide +kernel
theorem dX5_gainOf_115 : decode cX5_gainOf 115 = .ok (.getfield 45, 3) := by decide +kernel
theorem dX5_gainOf_118 : decode cX5_gainOf 118 = .ok (.iload 11, 2) := by decide +kernel
theorem dX5_gainOf_120 : decode cX5_gainOf 120 = .ok (.laload, 1) := by decide +kernel
theorem dX5_gainOf_121 : decode cX5_gainOf 121 = .ok (.ladd, 1) := by decide +kernel
theorem dX5_gainOf_122 : decode cX5_gainOf 122 = .ok (.lstore 9, 2) := by decide +kernel
theorem dX5_gainOf_124 : decode cX5_gainOf 124 = .ok (.iinc 11 1, 3) := by decide +kernel
theorem dX5_gainOf_127 : decode cX5_gainOf 127 = .ok (.goto (-101), 3) := by decide +kernel
theorem dX5_gainOf_130 : decode cX5_gainOf 130 = .ok (.ldc2_w 84, 3) := by decide +kernel
theorem dX5_gainOf_133 : decode cX5_gainOf 133 = .ok (.aload_n 0, 1) := by decide +kernel
theorem dX5_gainOf_134 : decode cX5_gainOf 134 = .ok (.getfield 76, 3) := by decide +kernel
theorem dX5_gainOf_137 : decode cX5_gainOf 137 = .ok (.lmul, 1) := by decide +kernel
theorem dX5_gainOf_138 : decode cX5_gainOf 138 = .ok (.lload 5, 2) := by decide +kernel
theorem dX5_gainOf_140 : decode cX5_gainOf 140 = .ok (.lload_n 3, 1) := by decide +kernel
theorem dX5_gainOf_141 : decode cX5_gainOf 141 = .ok (.lsub, 1) := by decide +kernel
theorem dX5_gainOf_142 : decode cX5_gainOf 142 = .ok (.lmul, 1) := by decide +kernel
theorem dX5_gainOf_143 : decode cX5_gainOf 143 = .ok (.ldc2_w 86, 3) := by decide +kernel
theorem dX5_gainOf_146 : decode cX5_gainOf 146 = .ok (.aload_n 0, 1) := by decide +kernel
theorem dX5_gainOf_147 : decode cX5_gainOf 147 = .ok (.getfield 45, 3) := by decide +kernel
theorem dX5_gainOf_150 : decode cX5_gainOf 150 = .ok (.iload_n 1, 1) := by decide +kernel
theorem dX5_gainOf_151 : decode cX5_gainOf 151 = .ok (.laload, 1) := by decide +kernel
theorem dX5_gainOf_152 : decode cX5_gainOf 152 = .ok (.lmul, 1) := by decide +kernel
theorem dX5_gainOf_153 : decode cX5_gainOf 153 = .ok (.lload 9, 2) := by decide +kernel
theorem dX5_gainOf_155 : decode cX5_gainOf 155 = .ok (.lload 7, 2) := by decide +kernel
theorem dX5_gainOf_157 : decode cX5_gainOf 157 = .ok (.lsub, 1) := by decide +kernel
theorem dX5_gainOf_158 : decode cX5_gainOf 158 = .ok (.lmul, 1) := by decide +kernel
theorem dX5_gainOf_159 : decode cX5_gainOf 159 = .ok (.lsub, 1) := by decide +kernel
theorem dX5_gainOf_160 : decode cX5_gainOf 160 = .ok (.lreturn, 1) := by decide +kernel
theorem dX5_isNear_0 : decode cX5_isNear 0 = .ok (.iconst 0, 1) := by decide +kernel
theorem dX5_isNear_1 : decode cX5_isNear 1 = .ok (.istore_n 3, 1) := by decide +kernel
theorem dX5_isNear_2 : decode cX5_isNear 2 = .ok (.iconst 0, 1) := by decide +kernel
theorem dX5_isNear_3 : decode cX5_isNear 3 = .ok (.istore 4, 2) := by decide +kernel
theorem dX5_isNear_5 : decode cX5_isNear 5 = .ok (.iload 4, 2) := by decide +kernel
theorem dX5_isNear_7 : decode cX5_isNear 7 = .ok (.aload_n 0, 1) := by decide +kernel
theorem dX5_isNear_8 : decode cX5_isNear 8 = .ok (.getfield 70, 3) := by decide +kernel
theorem dX5_isNear_11 : decode cX5_isNear 11 = .ok (.if_icmp .ge 51, 3) := by decide +kernel
theorem dX5_isNear_14 : decode cX5_isNear 14 = .ok (.iload_n 3, 1) := by decide +kernel
theorem dX5_isNear_15 : decode cX5_isNear 15 = .ok (.iload 4, 2) := by decide +kernel
theorem dX5_isNear_17 : decode cX5_isNear 17 = .ok (.iload_n 1, 1) := by decide +kernel
theorem dX5_isNear_18 : decode cX5_isNear 18 = .ok (.if_icmp .eq 35, 3) := by decide +kernel
theorem dX5_isNear_21 : decode cX5_isNear 21 = .ok (.aload_n 0, 1) := by decide +kernel
theorem dX5_isNear_22 : decode cX5_isNear 22 = .ok (.getfield 24, 3) := by decide +kernel
theorem dX5_isNear_25 : decode cX5_isNear 25 = .ok (.iload 4, 2) := by decide +kernel
theorem dX5_isNear_27 : decode cX5_isNear 27 = .ok (.iaload, 1) := by decide +kernel
theorem dX5_isNear_28 : decode cX5_isNear 28 = .ok (.iload_n 2, 1) := by decide +kernel
theorem dX5_isNear_29 : decode cX5_isNear 29 = .ok (.if_icmp .ne 24, 3) := by decide +kernel
theorem dX5_isNear_32 : decode cX5_isNear 32 = .ok (.aload_n 0, 1) := by decide +kernel
theorem dX5_isNear_33 : decode cX5_isNear 33 = .ok (.getfield 20, 3) := by decide +kernel
theorem dX5_isNear_36 : decode cX5_isNear 36 = .ok (.bipush 40, 2) := by decide +kernel
theorem dX5_isNear_38 : decode cX5_isNear 38 = .ok (.iload_n 1, 1) := by decide +kernel
theorem dX5_isNear_39 : decode cX5_isNear 39 = .ok (.imul, 1) := by decide +kernel
theorem dX5_isNear_40 : decode cX5_isNear 40 = .ok (.iload 4, 2) := by decide +kernel
theorem dX5_isNear_42 : decode cX5_isNear 42 = .ok (.iadd, 1) := by decide +kernel
theorem dX5_isNear_43 : decode cX5_isNear 43 = .ok (.laload, 1) := by decide +kernel
theorem dX5_isNear_44 : decode cX5_isNear 44 = .ok (.lconst 0, 1) := by decide +kernel
theorem dX5_isNear_45 : decode cX5_isNear 45 = .ok (.lcmp, 1) := by decide +kernel
theorem dX5_isNear_46 : decode cX5_isNear 46 = .ok (.ifCond .le 7, 3) := by decide +kernel
theorem dX5_isNear_49 : decode cX5_isNear 49 = .ok (.iconst 1, 1) := by decide +kernel
theorem dX5_isNear_50 : decode cX5_isNear 50 = .ok (.goto 4, 3) := by decide +kernel
theorem dX5_isNear_53 : decode cX5_isNear 53 = .ok (.iconst 0, 1) := by decide +kernel
theorem dX5_isNear_54 : decode cX5_isNear 54 = .ok (.ior, 1) := by decide +kernel
theorem dX5_isNear_55 : decode cX5_isNear 55 = .ok (.istore_n 3, 1) := by decide +kernel
theorem dX5_isNear_56 : decode cX5_isNear 56 = .ok (.iinc 4 1, 3) := by decide +kernel
theorem dX5_isNear_59 : decode cX5_isNear 59 = .ok (.goto (-54), 3) := by decide +kernel
theorem dX5_isNear_62 : decode cX5_isNear 62 = .ok (.iload_n 3, 1) := by decide +kernel
theorem dX5_isNear_63 : decode cX5_isNear 63 = .ok (.ireturn, 1) := by decide +kernel
theorem dX5_isEmpty_0 : decode cX5_isEmpty 0 = .ok (.iconst 1, 1) := by decide +kernel
theorem dX5_isEmpty_1 : decode cX5_isEmpty 1 = .ok (.istore_n 2, 1) := by decide +kernel
theorem dX5_isEmpty_2 : decode cX5_isEmpty 2 = .ok (.iconst 0, 1) := by decide +kernel
theorem dX5_isEmpty_3 : decode cX5_isEmpty 3 = .ok (.istore_n 3, 1) := by decide +kernel
theorem dX5_isEmpty_4 : decode cX5_isEmpty 4 = .ok (.iload_n 3, 1) := by decide +kernel
theorem dX5_isEmpty_5 : decode cX5_isEmpty 5 = .ok (.aload_n 0, 1) := by decide +kernel
theorem dX5_isEmpty_6 : decode cX5_isEmpty 6 = .ok (.getfield 70, 3) := by decide +kernel
theorem dX5_isEmpty_9 : decode cX5_isEmpty 9 = .ok (.if_icmp .ge 27, 3) := by decide +kernel
theorem dX5_isEmpty_12 : decode cX5_isEmpty 12 = .ok (.iload_n 2, 1) := by decide +kernel
theorem dX5_isEmpty_13 : decode cX5_isEmpty 13 = .ok (.aload_n 0, 1) := by decide +kernel
theorem dX5_isEmpty_14 : decode cX5_isEmpty 14 = .ok (.getfield 24, 3) := by decide +kernel
theorem dX5_isEmpty_17 : decode cX5_isEmpty 17 = .ok (.iload_n 3, 1) := by decide +kernel
theorem dX5_isEmpty_18 : decode cX5_isEmpty 18 = .ok (.iaload, 1) := by decide +kernel
theorem dX5_isEmpty_19 : decode cX5_isEmpty 19 = .ok (.iload_n 1, 1) := by decide +kernel
theorem dX5_isEmpty_20 : decode cX5_isEmpty 20 = .ok (.if_icmp .eq 7, 3) := by decide +kernel
theorem dX5_isEmpty_23 : decode cX5_isEmpty 23 = .ok (.iconst 1, 1) := by decide +kernel
theorem dX5_isEmpty_24 : decode cX5_isEmpty 24 = .ok (.goto 4, 3) := by decide +kernel
theorem dX5_isEmpty_27 : decode cX5_isEmpty 27 = .ok (.iconst 0, 1) := by decide +kernel
theorem dX5_isEmpty_28 : decode cX5_isEmpty 28 = .ok (.iand, 1) := by decide +kernel
theorem dX5_isEmpty_29 : decode cX5_isEmpty 29 = .ok (.istore_n 2, 1) := by decide +kernel
theorem dX5_isEmpty_30 : decode cX5_isEmpty 30 = .ok (.iinc 3 1, 3) := by decide +kernel
theorem dX5_isEmpty_33 : decode cX5_isEmpty 33 = .ok (.goto (-29), 3) := by decide +kernel
