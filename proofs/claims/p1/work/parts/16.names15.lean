theorem dX5_own_5 : decode cX5_own 5 = .ok (.aload_n 0, 1) := by decide +kernel
theorem dX5_own_6 : decode cX5_own 6 = .ok (.invokevirtual 128, 3) := by decide +kernel
theorem dX5_own_9 : decode cX5_own 9 = .ok (.aload_n 0, 1) := by decide +kernel
theorem dX5_own_10 : decode cX5_own 10 = .ok (.invokevirtual 115, 3) := by decide +kernel
theorem dX5_own_13 : decode cX5_own 13 = .ok (.lreturn, 1) := by decide +kernel
set_option maxRecDepth 20000 in
theorem ggX5_gain_X5_noNode : GoodIn wsX5_gain wsX5_noNode := goodIn_r _ [6, 7, 41, 42, 43, 44, 45, 46, 47, 48, 49, 50, 51, 52, 53, 54, 55, 56, 57] (by decide +kernel) (by decide +kernel)
set_option maxRecDepth 20000 in
theorem gX5_gain_X5_noNode : GoodIn wsX5_gain (wsV RX5 60 RX5 yX5_noNode wsX5_noNode) := goodIn_app (goodIn_of _ (by decide +kernel)) ggX5_gain_X5_noNode
set_option maxRecDepth 20000 in
theorem ggX5_gain_X5_ownNow : GoodIn wsX5_gain wsX5_ownNow := goodIn_r _ [11, 7, 12, 13, 14, 15, 16, 5, 17, 18, 19, 20, 21, 22, 23, 24, 25, 26, 27, 28, 29, 30, 31, 32, 33, 34, 41, 42, 43, 44, 45, 46, 47, 48, 49, 50, 51, 52, 53, 54, 55, 56, 57] (by decide +kernel) (by decide +kernel)
set_option maxRecDepth 20000 in
theorem gX5_gain_X5_ownNow : GoodIn wsX5_gain (wsV RX5 128 RX5 yX5_ownNow wsX5_ownNow) := goodIn_app (goodIn_of _ (by decide +kernel)) ggX5_gain_X5_ownNow
set_option maxRecDepth 20000 in
theorem ggX5_gain_X5_gainOf : GoodIn wsX5_gain wsX5_gainOf := goodIn_r _ [38, 12, 18, 19, 26, 39, 25, 40, 41, 42, 43, 44, 45, 46, 47, 48, 49, 50, 51, 52, 53, 54, 55, 56, 57] (by decide +kernel) (by decide +kernel)
set_option maxRecDepth 20000 in
theorem gX5_gain_X5_gainOf : GoodIn wsX5_gain (wsV RX5 92 RX5 yX5_gainOf wsX5_gainOf) := goodIn_app (goodIn_of _ (by decide +kernel)) ggX5_gain_X5_gainOf
theorem dX5_gain_0 : decode cX5_gain 0 = .ok (.aload_n 0, 1) := by decide +kernel
theorem dX5_gain_1 : decode cX5_gain 1 = .ok (.aload_n 0, 1) := by decide +kernel
theorem dX5_gain_2 : decode cX5_gain 2 = .ok (.iload_n 1, 1) := by decide +kernel
theorem dX5_gain_3 : decode cX5_gain 3 = .ok (.invokevirtual 60, 3) := by decide +kernel
theorem dX5_gain_6 : decode cX5_gain 6 = .ok (.ifCond .ne 11, 3) := by decide +kernel
theorem dX5_gain_9 : decode cX5_gain 9 = .ok (.aload_n 0, 1) := by decide +kernel
theorem dX5_gain_10 : decode cX5_gain 10 = .ok (.iload_n 2, 1) := by decide +kernel
theorem dX5_gain_11 : decode cX5_gain 11 = .ok (.invokevirtual 60, 3) := by decide +kernel
theorem dX5_gain_14 : decode cX5_gain 14 = .ok (.ifCond .eq 7, 3) := by decide +kernel
theorem dX5_gain_17 : decode cX5_gain 17 = .ok (.iconst 1, 1) := by decide +kernel
theorem dX5_gain_18 : decode cX5_gain 18 = .ok (.goto 4, 3) := by decide +kernel
theorem dX5_gain_21 : decode cX5_gain 21 = .ok (.iconst 0, 1) := by decide +kernel
theorem dX5_gain_22 : decode cX5_gain 22 = .ok (.putfield 48, 3) := by decide +kernel
theorem dX5_gain_25 : decode cX5_gain 25 = .ok (.aload_n 0, 1) := by decide +kernel
theorem dX5_gain_26 : decode cX5_gain 26 = .ok (.getfield 48, 3) := by decide +kernel
theorem dX5_gain_29 : decode cX5_gain 29 = .ok (.ifCond .le 5, 3) := by decide +kernel
theorem dX5_gain_32 : decode cX5_gain 32 = .ok (.lconst 0, 1) := by decide +kernel
theorem dX5_gain_33 : decode cX5_gain 33 = .ok (.lreturn, 1) := by decide +kernel
theorem dX5_gain_34 : decode cX5_gain 34 = .ok (.aload_n 0, 1) := by decide +kernel
theorem dX5_gain_35 : decode cX5_gain 35 = .ok (.invokevirtual 128, 3) := by decide +kernel
theorem dX5_gain_38 : decode cX5_gain 38 = .ok (.aload_n 0, 1) := by decide +kernel
theorem dX5_gain_39 : decode cX5_gain 39 = .ok (.iload_n 1, 1) := by decide +kernel
theorem dX5_gain_40 : decode cX5_gain 40 = .ok (.iload_n 2, 1) := by decide +kernel
theorem dX5_gain_41 : decode cX5_gain 41 = .ok (.invokevirtual 92, 3) := by decide +kernel
theorem dX5_gain_44 : decode cX5_gain 44 = .ok (.lreturn, 1) := by decide +kernel
set_option maxRecDepth 20000 in
theorem ggX5_about_X5_noNode : GoodIn wsX5_about wsX5_noNode := goodIn_r _ [9, 2, 24, 25, 26, 27, 28, 29, 30, 31, 32, 33, 34, 35, 36, 37, 38, 39, 40] (by decide +kernel) (by decide +kernel)
set_option maxRecDepth 20000 in
theorem gX5_about_X5_noNode : GoodIn wsX5_about (wsV RX5 60 RX5 yX5_noNode wsX5_noNode) := goodIn_app (goodIn_of _ (by decide +kernel)) ggX5_about_X5_noNode
set_option maxRecDepth 20000 in
theorem ggX5_about_X5_first : GoodIn wsX5_about wsX5_first := goodIn_r _ [13, 2, 14, 15, 3, 24, 25, 26, 27, 28, 29, 30, 31, 32, 33, 34, 35, 36, 37, 38, 39, 40] (by decide +kernel) (by decide +kernel)
set_option maxRecDepth 20000 in
theorem gX5_about_X5_first : GoodIn wsX5_about (wsV RX5 102 RX5 yX5_first wsX5_first) := goodIn_app (goodIn_of _ (by decide +kernel)) ggX5_about_X5_first
set_option maxRecDepth 20000 in
theorem ggX5_about_X5_sum : GoodIn wsX5_about wsX5_sum := goodIn_r _ [19, 14, 15, 24, 25, 26, 27, 28, 29, 30, 31, 32, 33, 34, 35, 36, 37, 38, 39, 40] (by decide +kernel) (by decide +kernel)
set_option maxRecDepth 20000 in
theorem gX5_about_X5_sum : GoodIn wsX5_about (wsV RX5 73 RX5 yX5_sum wsX5_sum) := goodIn_app (goodIn_of _ (by decide +kernel)) ggX5_about_X5_sum
set_option maxRecDepth 20000 in
theorem ggX5_about_X5_degree : GoodIn wsX5_about wsX5_degree := goodIn_r _ [23, 15, 14, 24, 25, 26, 27, 28, 29, 30, 31, 32, 33, 34, 35, 36, 37, 38, 39, 40] (by decide +kernel) (by decide +kernel)
set_option maxRecDepth 20000 in
theorem gX5_about_X5_degree : GoodIn wsX5_about (wsV RX5 80 RX5 yX5_degree wsX5_degree) := goodIn_app (goodIn_of _ (by decide +kernel)) ggX5_about_X5_degree
theorem dX5_about_0 : decode cX5_about 0 = .ok (.aload_n 0, 1) := by decide +kernel
theorem dX5_about_1 : decode cX5_about 1 = .ok (.iload_n 1, 1) := by decide +kernel
theorem dX5_about_2 : decode cX5_about 2 = .ok (.ifCond .lt 21, 3) := by decide +kernel
theorem dX5_about_5 : decode cX5_about 5 = .ok (.iload_n 1, 1) := by decide +kernel
theorem dX5_about_6 : decode cX5_about 6 = .ok (.iconst 4, 1) := by decide +kernel
theorem dX5_about_7 : decode cX5_about 7 = .ok (.if_icmp .gt 16, 3) := by decide +kernel
theorem dX5_about_10 : decode cX5_about 10 = .ok (.iload_n 1, 1) := by decide +kernel
theorem dX5_about_11 : decode cX5_about 11 = .ok (.iconst 1, 1) := by decide +kernel
theorem dX5_about_12 : decode cX5_about 12 = .ok (.if_icmp .le 15, 3) := by decide +kernel
theorem dX5_about_15 : decode cX5_about 15 = .ok (.aload_n 0, 1) := by decide +kernel
theorem dX5_about_16 : decode cX5_about 16 = .ok (.iload_n 2, 1) := by decide +kernel
theorem dX5_about_17 : decode cX5_about 17 = .ok (.invokevirtual 60, 3) := by decide +kernel
theorem dX5_about_20 : decode cX5_about 20 = .ok (.ifCond .eq 7, 3) := by decide +kernel
theorem dX5_about_23 : decode cX5_about 23 = .ok (.iconst 1, 1) := by decide +kernel
theorem dX5_about_24 : decode cX5_about 24 = .ok (.goto 4, 3) := by decide +kernel
theorem dX5_about_27 : decode cX5_about 27 = .ok (.iconst 0, 1) := by decide +kernel
theorem dX5_about_28 : decode cX5_about 28 = .ok (.putfield 48, 3) := by decide +kernel
theorem dX5_about_31 : decode cX5_about 31 = .ok (.aload_n 0, 1) := by decide +kernel
theorem dX5_about_32 : decode cX5_about 32 = .ok (.getfield 48, 3) := by decide +kernel
theorem dX5_about_35 : decode cX5_about 35 = .ok (.ifCond .le 5, 3) := by decide +kernel
theorem dX5_about_38 : decode cX5_about 38 = .ok (.iconst 0, 1) := by decide +kernel
theorem dX5_about_39 : decode cX5_about 39 = .ok (.ireturn, 1) := by decide +kernel
theorem dX5_about_40 : decode cX5_about 40 = .ok (.aload_n 0, 1) := by decide +kernel
theorem dX5_about_41 : decode cX5_about 41 = .ok (.invokevirtual 102, 3) := by decide +kernel
theorem dX5_about_44 : decode cX5_about 44 = .ok (.iload_n 1, 1) := by decide +kernel
theorem dX5_about_45 : decode cX5_about 45 = .ok (.ifCond .ne 10, 3) := by decide +kernel
theorem dX5_about_48 : decode cX5_about 48 = .ok (.aload_n 0, 1) := by decide +kernel
theorem dX5_about_49 : decode cX5_about 49 = .ok (.getfield 7, 3) := by decide +kernel
theorem dX5_about_52 : decode cX5_about 52 = .ok (.goto 55, 3) := by decide +kernel
theorem dX5_about_55 : decode cX5_about 55 = .ok (.iload_n 1, 1) := by decide +kernel
theorem dX5_about_56 : decode cX5_about 56 = .ok (.iconst 1, 1) := by decide +kernel
theorem dX5_about_57 : decode cX5_about 57 = .ok (.if_icmp .ne 11, 3) := by decide +kernel
theorem dX5_about_60 : decode cX5_about 60 = .ok (.aload_n 0, 1) := by decide +kernel
theorem dX5_about_61 : decode cX5_about 61 = .ok (.invokevirtual 73, 3) := by decide +kernel
theorem dX5_about_64 : decode cX5_about 64 = .ok (.l2i, 1) := by decide +kernel
theorem dX5_about_65 : decode cX5_about 65 = .ok (.goto 42, 3) := by decide +kernel
theorem dX5_about_68 : decode cX5_about 68 = .ok (.iload_n 1, 1) := by decide +kernel
theorem dX5_about_69 : decode cX5_about 69 = .ok (.iconst 2, 1) := by decide +kernel
theorem dX5_about_70 : decode cX5_about 70 = .ok (.if_icmp .ne 12, 3) := by decide +kernel
theorem dX5_about_73 : decode cX5_about 73 = .ok (.aload_n 0, 1) := by decide +kernel
theorem dX5_about_74 : decode cX5_about 74 = .ok (.iload_n 2, 1) := by decide +kernel
theorem dX5_about_75 : decode cX5_about 75 = .ok (.invokevirtual 80, 3) := by decide +kernel
theorem dX5_about_78 : decode cX5_about 78 = .ok (.l2i, 1) := by decide +kernel
theorem dX5_about_79 : decode cX5_about 79 = .ok (.goto 28, 3) := by decide +kernel
theorem dX5_about_82 : decode cX5_about 82 = .ok (.iload_n 1, 1) := by decide +kernel
theorem dX5_about_83 : decode cX5_about 83 = .ok (.iconst 3, 1) := by decide +kernel
theorem dX5_about_84 : decode cX5_about 84 = .ok (.if_icmp .ne 17, 3) := by decide +kernel
theorem dX5_about_87 : decode cX5_about 87 = .ok (.aload_n 0, 1) := by decide +kernel
theorem dX5_about_88 : decode cX5_about 88 = .ok (.getfield 13, 3) := by decide +kernel
theorem dX5_about_91 : decode cX5_about 91 = .ok (.bipush 40, 2) := by decide +kernel
theorem dX5_about_93 : decode cX5_about 93 = .ok (.iload_n 2, 1) := by decide +kernel
theorem dX5_about_94 : decode cX5_about 94 = .ok (.imul, 1) := by decide +kernel
theorem dX5_about_95 : decode cX5_about 95 = .ok (.iload_n 2, 1) := by decide +kernel
theorem dX5_about_96 : decode cX5_about 96 = .ok (.iadd, 1) := by decide +kernel
theorem dX5_about_97 : decode cX5_about 97 = .ok (.iaload, 1) := by decide +kernel
theorem dX5_about_98 : decode cX5_about 98 = .ok (.goto 9, 3) := by decide +kernel
theorem dX5_about_101 : decode cX5_about 101 = .ok (.aload_n 0, 1) := by decide +kernel
theorem dX5_about_102 : decode cX5_about 102 = .ok (.getfield 17, 3) := by decide +kernel
theorem dX5_about_105 : decode cX5_about 105 = .ok (.iload_n 2, 1) := by decide +kernel
theorem dX5_about_106 : decode cX5_about 106 = .ok (.iaload, 1) := by decide +kernel
theorem dX5_about_107 : decode cX5_about 107 = .ok (.ireturn, 1) := by decide +kernel
theorem dJ7_fill_53178_0 : decode cJ7_fill_53178 0 = .ok (.iconst 0, 1) := by decide +kernel
theorem dJ7_fill_53178_1 : decode cJ7_fill_53178 1 = .ok (.istore_n 2, 1) := by decide +kernel
theorem dJ7_fill_53178_2 : decode cJ7_fill_53178 2 = .ok (.aload_n 0, 1) := by decide +kernel
theorem dJ7_fill_53178_3 : decode cJ7_fill_53178 3 = .ok (.arraylength, 1) := by decide +kernel
theorem dJ7_fill_53178_4 : decode cJ7_fill_53178 4 = .ok (.istore_n 3, 1) := by decide +kernel
theorem dJ7_fill_53178_5 : decode cJ7_fill_53178 5 = .ok (.iload_n 2, 1) := by decide +kernel
theorem dJ7_fill_53178_6 : decode cJ7_fill_53178 6 = .ok (.iload_n 3, 1) := by decide +kernel
theorem dJ7_fill_53178_7 : decode cJ7_fill_53178 7 = .ok (.if_icmp .ge 13, 3) := by decide +kernel
theorem dJ7_fill_53178_10 : decode cJ7_fill_53178 10 = .ok (.aload_n 0, 1) := by decide +kernel
theorem dJ7_fill_53178_11 : decode cJ7_fill_53178 11 = .ok (.iload_n 2, 1) := by decide +kernel
theorem dJ7_fill_53178_12 : decode cJ7_fill_53178 12 = .ok (.iload_n 1, 1) := by decide +kernel
theorem dJ7_fill_53178_13 : decode cJ7_fill_53178 13 = .ok (.iastore, 1) := by decide +kernel
theorem dJ7_fill_53178_14 : decode cJ7_fill_53178 14 = .ok (.iinc 2 1, 3) := by decide +kernel
theorem dJ7_fill_53178_17 : decode cJ7_fill_53178 17 = .ok (.goto (-12), 3) := by decide +kernel
theorem dJ7_fill_53178_20 : decode cJ7_fill_53178 20 = .ok (.return_, 1) := by decide +kernel
set_option maxRecDepth 20000 in
theorem ggL_nodes_X4_nodes : GoodIn wsL_nodes wsX4_nodes := goodIn_ca (goodIn_r _ [6, 7, 8, 9, 10, 11, 12, 13, 14, 15, 16, 17, 18, 19, 20, 21, 22, 23, 24, 25, 26, 27, 28, 29, 30, 31, 32, 5, 33, 34, 35, 36, 37, 38, 39, 40, 41, 42, 43, 44, 45, 46, 47, 48, 49, 50, 51, 52, 53, 54, 55, 56, 57, 58, 59, 60] (by decide +kernel) (by decide +kernel)) (goodIn_sub (fun _ h => List.mem_cons_of_mem _ (List.mem_append_right _ h)) (by decide +kernel))
set_option maxRecDepth 20000 in
theorem gL_nodes_X4_nodes : GoodIn wsL_nodes (wsV RL 7 RX4 yX4_nodes wsX4_nodes) := goodIn_app (goodIn_of _ (by decide +kernel)) ggL_nodes_X4_nodes
theorem dL_nodes_0 : decode cL_nodes 0 = .ok (.aload_n 0, 1) := by decide +kernel
theorem dL_nodes_1 : decode cL_nodes 1 = .ok (.iload_n 1, 1) := by decide +kernel
theorem dL_nodes_2 : decode cL_nodes 2 = .ok (.invokevirtual 7, 3) := by decide +kernel
theorem dL_nodes_5 : decode cL_nodes 5 = .ok (.goto 6, 3) := by decide +kernel
theorem dL_nodes_8 : decode cL_nodes 8 = .ok (.astore_n 2, 1) := by decide +kernel
theorem dL_nodes_9 : decode cL_nodes 9 = .ok (.iconst 1, 1) := by decide +kernel
theorem dL_nodes_10 : decode cL_nodes 10 = .ok (.ireturn, 1) := by decide +kernel
theorem dL_nodes_11 : decode cL_nodes 11 = .ok (.iconst 0, 1) := by decide +kernel
theorem dL_nodes_12 : decode cL_nodes 12 = .ok (.ireturn, 1) := by decide +kernel
set_option maxRecDepth 20000 in
theorem ggL_weigh_X4_weigh : GoodIn wsL_weigh wsX4_weigh := goodIn_ca (goodIn_ca (goodIn_r _ [7, 8, 9, 10, 11, 12, 13, 14, 15, 6, 16, 17, 18, 19, 20, 21, 22, 23, 24, 25, 26, 27, 28, 29, 30, 31, 32, 33, 34, 35, 36, 37, 38, 39, 40, 41, 42, 43, 44, 45, 46, 47, 48, 49, 50, 51, 52, 53, 54, 55, 56, 57] (by decide +kernel) (by decide +kernel)) (goodIn_sub (fun _ h => List.mem_cons_of_mem _ (List.mem_append_left _ (List.mem_append_right _ h))) (by decide +kernel))) (goodIn_sub (fun _ h => List.mem_cons_of_mem _ (List.mem_append_right _ h)) (by decide +kernel))
set_option maxRecDepth 20000 in
theorem gL_weigh_X4_weigh : GoodIn wsL_weigh (wsV RL 15 RX4 yX4_weigh wsX4_weigh) := goodIn_app (goodIn_of _ (by decide +kernel)) ggL_weigh_X4_weigh
theorem dL_weigh_0 : decode cL_weigh 0 = .ok (.aload 4, 2) := by decide +kernel
theorem dL_weigh_2 : decode cL_weigh 2 = .ok (.iconst 0, 1) := by decide +kernel
theorem dL_weigh_3 : decode cL_weigh 3 = .ok (.aload_n 0, 1) := by decide +kernel
theorem dL_weigh_4 : decode cL_weigh 4 = .ok (.iload_n 1, 1) := by decide +kernel
theorem dL_weigh_5 : decode cL_weigh 5 = .ok (.iload_n 2, 1) := by decide +kernel
theorem dL_weigh_6 : decode cL_weigh 6 = .ok (.iload_n 3, 1) := by decide +kernel
theorem dL_weigh_7 : decode cL_weigh 7 = .ok (.invokevirtual 15, 3) := by decide +kernel
theorem dL_weigh_10 : decode cL_weigh 10 = .ok (.i2l, 1) := by decide +kernel
theorem dL_weigh_11 : decode cL_weigh 11 = .ok (.lastore, 1) := by decide +kernel
theorem dL_weigh_12 : decode cL_weigh 12 = .ok (.goto 11, 3) := by decide +kernel
theorem dL_weigh_15 : decode cL_weigh 15 = .ok (.astore 5, 2) := by decide +kernel
theorem dL_weigh_17 : decode cL_weigh 17 = .ok (.iconst 1, 1) := by decide +kernel
theorem dL_weigh_18 : decode cL_weigh 18 = .ok (.ireturn, 1) := by decide +kernel
theorem dL_weigh_19 : decode cL_weigh 19 = .ok (.astore 5, 2) := by decide +kernel
theorem dL_weigh_21 : decode cL_weigh 21 = .ok (.iconst 2, 1) := by decide +kernel
theorem dL_weigh_22 : decode cL_weigh 22 = .ok (.ireturn, 1) := by decide +kernel
theorem dL_weigh_23 : decode cL_weigh 23 = .ok (.iconst 0, 1) := by decide +kernel
theorem dL_weigh_24 : decode cL_weigh 24 = .ok (.ireturn, 1) := by decide +kernel
set_option maxRecDepth 20000 in
theorem ggL_level_X4_level : GoodIn wsL_level wsX4_level := goodIn_ca (goodIn_r _ [6, 7, 8, 9, 10, 11, 5, 12, 13, 14, 15, 16, 17, 18, 19, 20, 21, 22, 23, 24, 25, 26, 27, 28, 29, 30] (by decide +kernel) (by decide +kernel)) (goodIn_sub (fun _ h => List.mem_cons_of_mem _ (List.mem_append_right _ h)) (by decide +kernel))
set_option maxRecDepth 20000 in
theorem gL_level_X4_level : GoodIn wsL_level (wsV RL 21 RX4 yX4_level wsX4_level) := goodIn_app (goodIn_of _ (by decide +kernel)) ggL_level_X4_level
theorem dL_level_0 : decode cL_level 0 = .ok (.aload_n 3, 1) := by decide +kernel
theorem dL_level_1 : decode cL_level 1 = .ok (.iconst 0, 1) := by decide +kernel
theorem dL_level_2 : decode cL_level 2 = .ok (.aload_n 0, 1) := by decide +kernel
theorem dL_level_3 : decode cL_level 3 = .ok (.iload_n 1, 1) := by decide +kernel
theorem dL_level_4 : decode cL_level 4 = .ok (.iload_n 2, 1) := by decide +kernel
theorem dL_level_5 : decode cL_level 5 = .ok (.invokevirtual 21, 3) := by decide +kernel
theorem dL_level_8 : decode cL_level 8 = .ok (.i2l, 1) := by decide +kernel
theorem dL_level_9 : decode cL_level 9 = .ok (.lastore, 1) := by decide +kernel
theorem dL_level_10 : decode cL_level 10 = .ok (.goto 7, 3) := by decide +kernel
theorem dL_level_13 : decode cL_level 13 = .ok (.astore 4, 2) := by decide +kernel
theorem dL_level_15 : decode cL_level 15 = .ok (.iconst 1, 1) := by decide +kernel
theorem dL_level_16 : decode cL_level 16 = .ok (.ireturn, 1) := by decide +kernel
theorem dL_level_17 : decode cL_level 17 = .ok (.iconst 0, 1) := by decide +kernel
theorem dL_level_18 : decode cL_level 18 = .ok (.ireturn, 1) := by decide +kernel
set_option maxRecDepth 20000 in
theorem ggL_community_X4_community : GoodIn wsL_community wsX4_community := goodIn_ca (goodIn_r _ [6, 7, 8, 9, 10, 11, 5, 12, 13, 14, 15, 16, 17, 18, 19, 20, 21, 22, 23, 24, 25, 26, 27, 28, 29, 30, 31, 32, 33, 34, 35, 36] (by decide +kernel) (by decide +kernel)) (goodIn_sub (fun _ h => List.mem_cons_of_mem _ (List.mem_append_right _ h)) (by decide +kernel))
set_option maxRecDepth 20000 in
theorem gL_community_X4_community : GoodIn wsL_community (wsV RL 25 RX4 yX4_community wsX4_community) := goodIn_app (goodIn_of _ (by decide +kernel)) ggL_community_X4_community
theorem dL_community_0 : decode cL_community 0 = .ok (.aload_n 3, 1) := by decide +kernel
theorem dL_community_1 : decode cL_community 1 = .ok (.iconst 0, 1) := by decide +kernel
theorem dL_community_2 : decode cL_community 2 = .ok (.aload_n 0, 1) := by decide +kernel
theorem dL_community_3 : decode cL_community 3 = .ok (.iload_n 1, 1) := by decide +kernel
theorem dL_community_4 : decode cL_community 4 = .ok (.iload_n 2, 1) := by decide +kernel
theorem dL_community_5 : decode cL_community 5 = .ok (.invokevirtual 25, 3) := by decide +kernel
theorem dL_community_8 : decode cL_community 8 = .ok (.i2l, 1) := by decide +kernel
theorem dL_community_9 : decode cL_community 9 = .ok (.lastore, 1) := by decide +kernel
theorem dL_community_10 : decode cL_community 10 = .ok (.goto 7, 3) := by decide +kernel
theorem dL_community_13 : decode cL_community 13 = .ok (.astore 4, 2) := by decide +kernel
theorem dL_community_15 : decode cL_community 15 = .ok (.iconst 1, 1) := by decide +kernel
theorem dL_community_16 : decode cL_community 16 = .ok (.ireturn, 1) := by decide +kernel
theorem dL_community_17 : decode cL_community 17 = .ok (.iconst 0, 1) := by decide +kernel
theorem dL_community_18 : decode cL_community 18 = .ok (.ireturn, 1) := by decide +kernel
set_option maxRecDepth 20000 in
theorem ggL_modularity_X4_modularity : GoodIn wsL_modularity wsX4_modularity := goodIn_ca (goodIn_r _ [6, 7, 8, 9, 10, 11, 5, 12, 13, 14, 15, 16, 17, 18, 19, 20, 21, 22, 23, 24, 25, 26] (by decide +kernel) (by decide +kernel)) (goodIn_sub (fun _ h => List.mem_cons_of_mem _ (List.mem_append_right _ h)) (by decide +kernel))
set_option maxRecDepth 20000 in
theorem gL_modularity_X4_modularity : GoodIn wsL_modularity (wsV RL 28 RX4 yX4_modularity wsX4_modularity) := goodIn_app (goodIn_of _ (by decide +kernel)) ggL_modularity_X4_modularity
theorem dL_modularity_0 : decode cL_modularity 0 = .ok (.aload_n 2, 1) := by decide +kernel
theorem dL_modularity_1 : decode cL_modularity 1 = .ok (.iconst 0, 1) := by decide +kernel
theorem dL_modularity_2 : decode cL_modularity 2 = .ok (.aload_n 0, 1) := by decide +kernel
theorem dL_modularity_3 : decode cL_modularity 3 = .ok (.iload_n 1, 1) := by decide +kernel
theorem dL_modularity_4 : decode cL_modularity 4 = .ok (.invokevirtual 28, 3) := by decide +kernel
theorem dL_modularity_7 : decode cL_modularity 7 = .ok (.lastore, 1) := by decide +kernel
theorem dL_modularity_8 : decode cL_modularity 8 = .ok (.goto 6, 3) := by decide +kernel
theorem dL_modularity_11 : decode cL_modularity 11 = .ok (.astore_n 3, 1) := by decide +kernel
theorem dL_modularity_12 : decode cL_modularity 12 = .ok (.iconst 1, 1) := by decide +kernel
theorem dL_modularity_13 : decode cL_modularity 13 = .ok (.ireturn, 1) := by decide +kernel
theorem dL_modularity_14 : decode cL_modularity 14 = .ok (.iconst 0, 1) := by decide +kernel
theorem dL_modularity_15 : decode cL_modularity 15 = .ok (.ireturn, 1) := by decide +kernel
set_option maxRecDepth 20000 in
theorem ggL_move_X4_move : GoodIn wsL_move wsX4_move := goodIn_ca (goodIn_r _ [6, 7, 8, 9, 10, 11, 5, 12, 13, 14, 15, 16, 17, 18, 19, 20, 21, 22, 23, 24, 25, 26, 27, 28, 29] (by decide +kernel) (by decide +kernel)) (goodIn_sub (fun _ h => List.mem_cons_of_mem _ (List.mem_append_right _ h)) (by decide +kernel))
set_option maxRecDepth 20000 in
theorem gL_move_X4_move : GoodIn wsL_move (wsV RL 32 RX4 yX4_move wsX4_move) := goodIn_app (goodIn_of _ (by decide +kernel)) ggL_move_X4_move
theorem dL_move_0 : decode cL_move 0 = .ok (.aload_n 3, 1) := by decide +kernel
theorem dL_move_1 : decode cL_move 1 = .ok (.iconst 0, 1) := by decide +kernel
theorem dL_move_2 : decode cL_move 2 = .ok (.aload_n 0, 1) := by decide +kernel
theorem dL_move_3 : decode cL_move 3 = .ok (.iload_n 1, 1) := by decide +kernel
theorem dL_move_4 : decode cL_move 4 = .ok (.iload_n 2, 1) := by decide +kernel
theorem dL_move_5 : decode cL_move 5 = .ok (.invokevirtual 32, 3) := by decide +kernel
theorem dL_move_8 : decode cL_move 8 = .ok (.i2l, 1) := by decide +kernel
theorem dL_move_9 : decode cL_move 9 = .ok (.lastore, 1) := by decide +kernel
theorem dL_move_10 : decode cL_move 10 = .ok (.goto 7, 3) := by decide +kernel
theorem dL_move_13 : decode cL_move 13 = .ok (.astore 4, 2) := by decide +kernel
theorem dL_move_15 : decode cL_move 15 = .ok (.iconst 1, 1) := by decide +kernel
theorem dL_move_16 : decode cL_move 16 = .ok (.ireturn, 1) := by decide +kernel
theorem dL_move_17 : decode cL_move 17 = .ok (.iconst 0, 1) := by decide +kernel
theorem dL_move_18 : decode cL_move 18 = .ok (.ireturn, 1) := by decide +kernel
set_option maxRecDepth 20000 in
theorem ggL_gained_X4_gained : GoodIn wsL_gained wsX4_gained := goodIn_ca (goodIn_r _ [6, 7, 8, 9, 10, 11, 5, 12, 13, 14, 15, 16, 17, 18, 19, 20, 21, 22, 23, 24, 25] (by decide +kernel) (by decide +kernel)) (goodIn_sub (fun _ h => List.mem_cons_of_mem _ (List.mem_append_right _ h)) (by decide +kernel))
set_option maxRecDepth 20000 in
theorem gL_gained_X4_gained : GoodIn wsL_gained (wsV RL 35 RX4 yX4_gained wsX4_gained) := goodIn_app (goodIn_of _ (by decide +kernel)) ggL_gained_X4_gained
theorem dL_gained_0 : decode cL_gained 0 = .ok (.aload_n 2, 1) := by decide +kernel
theorem dL_gained_1 : decode cL_gained 1 = .ok (.iconst 0, 1) := by decide +kernel
theorem dL_gained_2 : decode cL_gained 2 = .ok (.aload_n 0, 1) := by decide +kernel
theorem dL_gained_3 : decode cL_gained 3 = .ok (.iload_n 1, 1) := by decide +kernel
theorem dL_gained_4 : decode cL_gained 4 = .ok (.invokevirtual 35, 3) := by decide +kernel
theorem dL_gained_7 : decode cL_gained 7 = .ok (.lastore, 1) := by decide +kernel
theorem dL_gained_8 : decode cL_gained 8 = .ok (.goto 6, 3) := by decide +kernel
theorem dL_gained_11 : decode cL_gained 11 = .ok (.astore_n 3, 1) := by decide +kernel
theorem dL_gained_12 : decode cL_gained 12 = .ok (.iconst 1, 1) := by decide +kernel
theorem dL_gained_13 : decode cL_gained 13 = .ok (.ireturn, 1) := by decide +kernel
theorem dL_gained_14 : decode cL_gained 14 = .ok (.iconst 0, 1) := by decide +kernel
theorem dL_gained_15 : decode cL_gained 15 = .ok (.ireturn, 1) := by decide +kernel
set_option maxRecDepth 20000 in
theorem ggL_place_X4_place : GoodIn wsL_place wsX4_place := goodIn_ca (goodIn_r _ [6, 7, 8, 9, 10, 11, 5, 12, 13, 14, 15, 16, 17, 18, 19, 20, 21, 22, 23, 24, 25, 26, 27, 28, 29, 30, 31, 32, 33, 34, 35, 36] (by decide +kernel) (by decide +kernel)) (goodIn_sub (fun _ h => List.mem_cons_of_mem _ (List.mem_append_right _ h)) (by decide +kernel))
set_option maxRecDepth 20000 in
theorem gL_place_X4_place : GoodIn wsL_place (wsV RL 38 RX4 yX4_place wsX4_place) := goodIn_app (goodIn_of _ (by decide +kernel)) ggL_place_X4_place
theorem dL_place_0 : decode cL_place 0 = .ok (.aload_n 3, 1) := by decide +kernel
