theorem dX4_weigh_0 : decode cX4_weigh 0 = .ok (.aload_n 0, 1) := by decide +kernel
theorem dX4_weigh_1 : decode cX4_weigh 1 = .ok (.iload_n 1, 1) := by decide +kernel
theorem dX4_weigh_2 : decode cX4_weigh 2 = .ok (.invokevirtual 64, 3) := by decide +kernel
theorem dX4_weigh_5 : decode cX4_weigh 5 = .ok (.aload_n 0, 1) := by decide +kernel
theorem dX4_weigh_6 : decode cX4_weigh 6 = .ok (.iload_n 2, 1) := by decide +kernel
theorem dX4_weigh_7 : decode cX4_weigh 7 = .ok (.invokevirtual 64, 3) := by decide +kernel
theorem dX4_weigh_10 : decode cX4_weigh 10 = .ok (.iload_n 3, 1) := by decide +kernel
theorem dX4_weigh_11 : decode cX4_weigh 11 = .ok (.ifCond .ge 13, 3) := by decide +kernel
theorem dX4_weigh_14 : decode cX4_weigh 14 = .ok (.new 47, 3) := by decide +kernel
theorem dX4_weigh_17 : decode cX4_weigh 17 = .ok (.dup, 1) := by decide +kernel
theorem dX4_weigh_18 : decode cX4_weigh 18 = .ok (.ldc 67, 2) := by decide +kernel
theorem dX4_weigh_20 : decode cX4_weigh 20 = .ok (.invokespecial 51, 3) := by decide +kernel
theorem dX4_weigh_23 : decode cX4_weigh 23 = .ok (.athrow, 1) := by decide +kernel
theorem dX4_weigh_24 : decode cX4_weigh 24 = .ok (.aload_n 0, 1) := by decide +kernel
theorem dX4_weigh_25 : decode cX4_weigh 25 = .ok (.getfield 10, 3) := by decide +kernel
theorem dX4_weigh_28 : decode cX4_weigh 28 = .ok (.iload_n 1, 1) := by decide +kernel
theorem dX4_weigh_29 : decode cX4_weigh 29 = .ok (.iload_n 2, 1) := by decide +kernel
theorem dX4_weigh_30 : decode cX4_weigh 30 = .ok (.invokevirtual 69, 3) := by decide +kernel
theorem dX4_weigh_33 : decode cX4_weigh 33 = .ok (.istore 4, 2) := by decide +kernel
theorem dX4_weigh_35 : decode cX4_weigh 35 = .ok (.aload_n 0, 1) := by decide +kernel
theorem dX4_weigh_36 : decode cX4_weigh 36 = .ok (.getfield 10, 3) := by decide +kernel
theorem dX4_weigh_39 : decode cX4_weigh 39 = .ok (.getfield 73, 3) := by decide +kernel
theorem dX4_weigh_42 : decode cX4_weigh 42 = .ok (.i2l, 1) := by decide +kernel
theorem dX4_weigh_43 : decode cX4_weigh 43 = .ok (.iload 4, 2) := by decide +kernel
theorem dX4_weigh_45 : decode cX4_weigh 45 = .ok (.i2l, 1) := by decide +kernel
theorem dX4_weigh_46 : decode cX4_weigh 46 = .ok (.lsub, 1) := by decide +kernel
theorem dX4_weigh_47 : decode cX4_weigh 47 = .ok (.iload_n 3, 1) := by decide +kernel
theorem dX4_weigh_48 : decode cX4_weigh 48 = .ok (.i2l, 1) := by decide +kernel
theorem dX4_weigh_49 : decode cX4_weigh 49 = .ok (.ladd, 1) := by decide +kernel
theorem dX4_weigh_50 : decode cX4_weigh 50 = .ok (.ldc2_w 77, 3) := by decide +kernel
theorem dX4_weigh_53 : decode cX4_weigh 53 = .ok (.lcmp, 1) := by decide +kernel
theorem dX4_weigh_54 : decode cX4_weigh 54 = .ok (.ifCond .lt 13, 3) := by decide +kernel
theorem dX4_weigh_57 : decode cX4_weigh 57 = .ok (.new 47, 3) := by decide +kernel
theorem dX4_weigh_60 : decode cX4_weigh 60 = .ok (.dup, 1) := by decide +kernel
theorem dX4_weigh_61 : decode cX4_weigh 61 = .ok (.ldc 79, 2) := by decide +kernel
theorem dX4_weigh_63 : decode cX4_weigh 63 = .ok (.invokespecial 51, 3) := by decide +kernel
theorem dX4_weigh_66 : decode cX4_weigh 66 = .ok (.athrow, 1) := by decide +kernel
theorem dX4_weigh_67 : decode cX4_weigh 67 = .ok (.aload_n 0, 1) := by decide +kernel
theorem dX4_weigh_68 : decode cX4_weigh 68 = .ok (.getfield 10, 3) := by decide +kernel
theorem dX4_weigh_71 : decode cX4_weigh 71 = .ok (.iload_n 1, 1) := by decide +kernel
theorem dX4_weigh_72 : decode cX4_weigh 72 = .ok (.iload_n 2, 1) := by decide +kernel
theorem dX4_weigh_73 : decode cX4_weigh 73 = .ok (.iload_n 3, 1) := by decide +kernel
theorem dX4_weigh_74 : decode cX4_weigh 74 = .ok (.iload 4, 2) := by decide +kernel
theorem dX4_weigh_76 : decode cX4_weigh 76 = .ok (.isub, 1) := by decide +kernel
theorem dX4_weigh_77 : decode cX4_weigh 77 = .ok (.invokevirtual 81, 3) := by decide +kernel
theorem dX4_weigh_80 : decode cX4_weigh 80 = .ok (.aload_n 0, 1) := by decide +kernel
theorem dX4_weigh_81 : decode cX4_weigh 81 = .ok (.invokevirtual 61, 3) := by decide +kernel
theorem dX4_weigh_84 : decode cX4_weigh 84 = .ok (.iload 4, 2) := by decide +kernel
theorem dX4_weigh_86 : decode cX4_weigh 86 = .ok (.ireturn, 1) := by decide +kernel
set_option maxRecDepth 20000 in
theorem ggX4_run_X4_makeLevels : GoodIn wsX4_run wsX4_makeLevels := goodIn_r _ [7, 8, 9, 10, 11, 12, 13, 14, 15, 16, 17, 18, 19, 20, 21, 22, 23, 24, 25, 26, 27, 28, 29, 30, 31, 32, 33, 34, 35, 36, 37, 38, 39, 6, 40, 41, 42, 43, 44, 45, 1, 46, 47, 48, 49, 50, 51, 52, 53, 54, 55, 56, 57, 58, 59, 60, 61, 62, 63, 64, 65, 66, 67, 68, 69, 70, 71, 72, 73, 74, 75, 76, 77, 78, 79, 80, 81, 82, 83, 84, 85, 86, 87, 88, 89, 90, 91, 92, 93, 94, 95, 96, 97, 98, 99, 100, 101, 102, 103, 104, 105, 106, 107, 108, 109, 110, 111, 112, 113, 114, 115, 116, 117, 118, 119, 120, 121, 122, 123, 124, 125, 126, 127, 132, 133, 134, 135, 136, 137, 138, 139, 140, 141, 142, 143, 128, 129, 130, 131] (by decide +kernel) (by decide +kernel)
set_option maxRecDepth 20000 in
theorem gX4_run_X4_makeLevels : GoodIn wsX4_run (wsV RX4 88 RX4 yX4_makeLevels wsX4_makeLevels) := goodIn_app (goodIn_of _ (by decide +kernel)) ggX4_run_X4_makeLevels
theorem dX4_run_0 : decode cX4_run 0 = .ok (.aload_n 0, 1) := by decide +kernel
theorem dX4_run_1 : decode cX4_run 1 = .ok (.getfield 26, 3) := by decide +kernel
theorem dX4_run_4 : decode cX4_run 4 = .ok (.getfield 85, 3) := by decide +kernel
theorem dX4_run_7 : decode cX4_run 7 = .ok (.ifCond .ne 7, 3) := by decide +kernel
theorem dX4_run_10 : decode cX4_run 10 = .ok (.aload_n 0, 1) := by decide +kernel
theorem dX4_run_11 : decode cX4_run 11 = .ok (.invokevirtual 88, 3) := by decide +kernel
theorem dX4_run_14 : decode cX4_run 14 = .ok (.aload_n 0, 1) := by decide +kernel
theorem dX4_run_15 : decode cX4_run 15 = .ok (.getfield 26, 3) := by decide +kernel
theorem dX4_run_18 : decode cX4_run 18 = .ok (.getfield 85, 3) := by decide +kernel
theorem dX4_run_21 : decode cX4_run 21 = .ok (.ireturn, 1) := by decide +kernel
theorem dX4_levels_0 : decode cX4_levels 0 = .ok (.aload_n 0, 1) := by decide +kernel
theorem dX4_levels_1 : decode cX4_levels 1 = .ok (.getfield 26, 3) := by decide +kernel
theorem dX4_levels_4 : decode cX4_levels 4 = .ok (.getfield 85, 3) := by decide +kernel
theorem dX4_levels_7 : decode cX4_levels 7 = .ok (.ireturn, 1) := by decide +kernel
set_option maxRecDepth 20000 in
theorem ggX4_level_X4_requireLevel : GoodIn wsX4_level wsX4_requireLevel := goodIn_ca (goodIn_r _ [7, 8, 9, 1, 10, 15, 16, 17, 18, 19, 20, 21, 22, 23, 24, 25] (by decide +kernel) (by decide +kernel)) (goodIn_sub (fun _ h => List.mem_cons_of_mem _ (List.mem_append_right _ h)) (by decide +kernel))
set_option maxRecDepth 20000 in
theorem gX4_level_X4_requireLevel : GoodIn wsX4_level (wsV RX4 91 RX4 yX4_requireLevel wsX4_requireLevel) := goodIn_app (goodIn_of _ (by decide +kernel)) ggX4_level_X4_requireLevel
set_option maxRecDepth 20000 in
theorem ggX4_level_X4_requireFact : GoodIn wsX4_level wsX4_requireFact := goodIn_ca (goodIn_r _ [14, 8, 9] (by decide +kernel) (by decide +kernel)) (goodIn_sub (fun _ h => List.mem_cons_of_mem _ (List.mem_append_right _ h)) (by decide +kernel))
set_option maxRecDepth 20000 in
theorem gX4_level_X4_requireFact : GoodIn wsX4_level (wsV RX4 94 RX4 yX4_requireFact wsX4_requireFact) := goodIn_app (goodIn_of _ (by decide +kernel)) ggX4_level_X4_requireFact
theorem dX4_level_0 : decode cX4_level 0 = .ok (.aload_n 0, 1) := by decide +kernel
theorem dX4_level_1 : decode cX4_level 1 = .ok (.iload_n 1, 1) := by decide +kernel
theorem dX4_level_2 : decode cX4_level 2 = .ok (.invokevirtual 91, 3) := by decide +kernel
theorem dX4_level_5 : decode cX4_level 5 = .ok (.aload_n 0, 1) := by decide +kernel
theorem dX4_level_6 : decode cX4_level 6 = .ok (.iload_n 2, 1) := by decide +kernel
theorem dX4_level_7 : decode cX4_level 7 = .ok (.invokevirtual 94, 3) := by decide +kernel
theorem dX4_level_10 : decode cX4_level 10 = .ok (.aload_n 0, 1) := by decide +kernel
theorem dX4_level_11 : decode cX4_level 11 = .ok (.getfield 26, 3) := by decide +kernel
theorem dX4_level_14 : decode cX4_level 14 = .ok (.getfield 97, 3) := by decide +kernel
theorem dX4_level_17 : decode cX4_level 17 = .ok (.iload_n 1, 1) := by decide +kernel
theorem dX4_level_18 : decode cX4_level 18 = .ok (.iconst 4, 1) := by decide +kernel
theorem dX4_level_19 : decode cX4_level 19 = .ok (.imul, 1) := by decide +kernel
theorem dX4_level_20 : decode cX4_level 20 = .ok (.iload_n 2, 1) := by decide +kernel
theorem dX4_level_21 : decode cX4_level 21 = .ok (.iadd, 1) := by decide +kernel
theorem dX4_level_22 : decode cX4_level 22 = .ok (.iaload, 1) := by decide +kernel
theorem dX4_level_23 : decode cX4_level 23 = .ok (.ireturn, 1) := by decide +kernel
set_option maxRecDepth 20000 in
theorem ggX4_community_X4_requireLevel : GoodIn wsX4_community wsX4_requireLevel := goodIn_ca (goodIn_r _ [7, 8, 9, 1, 10, 17, 18, 19, 20, 21, 22, 23, 24, 25, 26, 27] (by decide +kernel) (by decide +kernel)) (goodIn_sub (fun _ h => List.mem_cons_of_mem _ (List.mem_append_right _ h)) (by decide +kernel))
set_option maxRecDepth 20000 in
theorem gX4_community_X4_requireLevel : GoodIn wsX4_community (wsV RX4 91 RX4 yX4_requireLevel wsX4_requireLevel) := goodIn_app (goodIn_of _ (by decide +kernel)) ggX4_community_X4_requireLevel
set_option maxRecDepth 20000 in
theorem ggX4_community_X4_requireNode : GoodIn wsX4_community wsX4_requireNode := goodIn_ca (goodIn_r _ [14, 8, 9, 15, 16, 17, 18, 19, 20, 21, 22, 23, 28, 29, 30, 31] (by decide +kernel) (by decide +kernel)) (goodIn_sub (fun _ h => List.mem_cons_of_mem _ (List.mem_append_right _ h)) (by decide +kernel))
set_option maxRecDepth 20000 in
theorem gX4_community_X4_requireNode : GoodIn wsX4_community (wsV RX4 64 RX4 yX4_requireNode wsX4_requireNode) := goodIn_app (goodIn_of _ (by decide +kernel)) ggX4_community_X4_requireNode
theorem dX4_community_0 : decode cX4_community 0 = .ok (.aload_n 0, 1) := by decide +kernel
theorem dX4_community_1 : decode cX4_community 1 = .ok (.iload_n 1, 1) := by decide +kernel
theorem dX4_community_2 : decode cX4_community 2 = .ok (.invokevirtual 91, 3) := by decide +kernel
theorem dX4_community_5 : decode cX4_community 5 = .ok (.aload_n 0, 1) := by decide +kernel
theorem dX4_community_6 : decode cX4_community 6 = .ok (.iload_n 2, 1) := by decide +kernel
theorem dX4_community_7 : decode cX4_community 7 = .ok (.invokevirtual 64, 3) := by decide +kernel
theorem dX4_community_10 : decode cX4_community 10 = .ok (.aload_n 0, 1) := by decide +kernel
theorem dX4_community_11 : decode cX4_community 11 = .ok (.getfield 26, 3) := by decide +kernel
theorem dX4_community_14 : decode cX4_community 14 = .ok (.getfield 100, 3) := by decide +kernel
theorem dX4_community_17 : decode cX4_community 17 = .ok (.iload_n 1, 1) := by decide +kernel
theorem dX4_community_18 : decode cX4_community 18 = .ok (.bipush 40, 2) := by decide +kernel
theorem dX4_community_20 : decode cX4_community 20 = .ok (.imul, 1) := by decide +kernel
theorem dX4_community_21 : decode cX4_community 21 = .ok (.iload_n 2, 1) := by decide +kernel
theorem dX4_community_22 : decode cX4_community 22 = .ok (.iadd, 1) := by decide +kernel
theorem dX4_community_23 : decode cX4_community 23 = .ok (.iaload, 1) := by decide +kernel
theorem dX4_community_24 : decode cX4_community 24 = .ok (.ireturn, 1) := by decide +kernel
set_option maxRecDepth 20000 in
theorem ggX4_modularity_X4_requireLevel : GoodIn wsX4_modularity wsX4_requireLevel := goodIn_ca (goodIn_r _ [7, 8, 9, 1, 10, 11, 12, 13, 14, 15, 16, 17, 18, 19, 20, 21] (by decide +kernel) (by decide +kernel)) (goodIn_sub (fun _ h => List.mem_cons_of_mem _ (List.mem_append_right _ h)) (by decide +kernel))
set_option maxRecDepth 20000 in
theorem gX4_modularity_X4_requireLevel : GoodIn wsX4_modularity (wsV RX4 91 RX4 yX4_requireLevel wsX4_requireLevel) := goodIn_app (goodIn_of _ (by decide +kernel)) ggX4_modularity_X4_requireLevel
theorem dX4_modularity_0 : decode cX4_modularity 0 = .ok (.aload_n 0, 1) := by decide +kernel
theorem dX4_modularity_1 : decode cX4_modularity 1 = .ok (.iload_n 1, 1) := by decide +kernel
theorem dX4_modularity_2 : decode cX4_modularity 2 = .ok (.invokevirtual 91, 3) := by decide +kernel
theorem dX4_modularity_5 : decode cX4_modularity 5 = .ok (.aload_n 0, 1) := by decide +kernel
theorem dX4_modularity_6 : decode cX4_modularity 6 = .ok (.getfield 26, 3) := by decide +kernel
theorem dX4_modularity_9 : decode cX4_modularity 9 = .ok (.getfield 103, 3) := by decide +kernel
theorem dX4_modularity_12 : decode cX4_modularity 12 = .ok (.iload_n 1, 1) := by decide +kernel
theorem dX4_modularity_13 : decode cX4_modularity 13 = .ok (.laload, 1) := by decide +kernel
theorem dX4_modularity_14 : decode cX4_modularity 14 = .ok (.lreturn, 1) := by decide +kernel
theorem dX4_moves_0 : decode cX4_moves 0 = .ok (.aload_n 0, 1) := by decide +kernel
theorem dX4_moves_1 : decode cX4_moves 1 = .ok (.getfield 33, 3) := by decide +kernel
theorem dX4_moves_4 : decode cX4_moves 4 = .ok (.getfield 107, 3) := by decide +kernel
theorem dX4_moves_7 : decode cX4_moves 7 = .ok (.ireturn, 1) := by decide +kernel
set_option maxRecDepth 20000 in
theorem ggX4_move_X4_requireTold : GoodIn wsX4_move wsX4_requireTold := goodIn_ca (goodIn_r _ [7, 8, 9, 1, 10, 15, 16, 17, 18, 19, 20, 21, 22, 23, 24] (by decide +kernel) (by decide +kernel)) (goodIn_sub (fun _ h => List.mem_cons_of_mem _ (List.mem_append_right _ h)) (by decide +kernel))
set_option maxRecDepth 20000 in
theorem gX4_move_X4_requireTold : GoodIn wsX4_move (wsV RX4 108 RX4 yX4_requireTold wsX4_requireTold) := goodIn_app (goodIn_of _ (by decide +kernel)) ggX4_move_X4_requireTold
set_option maxRecDepth 20000 in
theorem ggX4_move_X4_requireFact : GoodIn wsX4_move wsX4_requireFact := goodIn_ca (goodIn_r _ [14, 8, 9] (by decide +kernel) (by decide +kernel)) (goodIn_sub (fun _ h => List.mem_cons_of_mem _ (List.mem_append_right _ h)) (by decide +kernel))
set_option maxRecDepth 20000 in
theorem gX4_move_X4_requireFact : GoodIn wsX4_move (wsV RX4 94 RX4 yX4_requireFact wsX4_requireFact) := goodIn_app (goodIn_of _ (by decide +kernel)) ggX4_move_X4_requireFact
theorem dX4_move_0 : decode cX4_move 0 = .ok (.aload_n 0, 1) := by decide +kernel
theorem dX4_move_1 : decode cX4_move 1 = .ok (.iload_n 1, 1) := by decide +kernel
theorem dX4_move_2 : decode cX4_move 2 = .ok (.invokevirtual 108, 3) := by decide +kernel
theorem dX4_move_5 : decode cX4_move 5 = .ok (.aload_n 0, 1) := by decide +kernel
theorem dX4_move_6 : decode cX4_move 6 = .ok (.iload_n 2, 1) := by decide +kernel
theorem dX4_move_7 : decode cX4_move 7 = .ok (.invokevirtual 94, 3) := by decide +kernel
theorem dX4_move_10 : decode cX4_move 10 = .ok (.aload_n 0, 1) := by decide +kernel
theorem dX4_move_11 : decode cX4_move 11 = .ok (.getfield 33, 3) := by decide +kernel
theorem dX4_move_14 : decode cX4_move 14 = .ok (.getfield 111, 3) := by decide +kernel
theorem dX4_move_17 : decode cX4_move 17 = .ok (.iload_n 1, 1) := by decide +kernel
theorem dX4_move_18 : decode cX4_move 18 = .ok (.iconst 4, 1) := by decide +kernel
theorem dX4_move_19 : decode cX4_move 19 = .ok (.imul, 1) := by decide +kernel
theorem dX4_move_20 : decode cX4_move 20 = .ok (.iload_n 2, 1) := by decide +kernel
theorem dX4_move_21 : decode cX4_move 21 = .ok (.iadd, 1) := by decide +kernel
theorem dX4_move_22 : decode cX4_move 22 = .ok (.iaload, 1) := by decide +kernel
theorem dX4_move_23 : decode cX4_move 23 = .ok (.ireturn, 1) := by decide +kernel
set_option maxRecDepth 20000 in
theorem ggX4_gained_X4_requireTold : GoodIn wsX4_gained wsX4_requireTold := goodIn_ca (goodIn_r _ [7, 8, 9, 1, 10, 11, 12, 13, 14, 15, 16, 17, 18, 19, 20] (by decide +kernel) (by decide +kernel)) (goodIn_sub (fun _ h => List.mem_cons_of_mem _ (List.mem_append_right _ h)) (by decide +kernel))
set_option maxRecDepth 20000 in
theorem gX4_gained_X4_requireTold : GoodIn wsX4_gained (wsV RX4 108 RX4 yX4_requireTold wsX4_requireTold) := goodIn_app (goodIn_of _ (by decide +kernel)) ggX4_gained_X4_requireTold
theorem dX4_gained_0 : decode cX4_gained 0 = .ok (.aload_n 0, 1) := by decide +kernel
theorem dX4_gained_1 : decode cX4_gained 1 = .ok (.iload_n 1, 1) := by decide +kernel
theorem dX4_gained_2 : decode cX4_gained 2 = .ok (.invokevirtual 108, 3) := by decide +kernel
theorem dX4_gained_5 : decode cX4_gained 5 = .ok (.aload_n 0, 1) := by decide +kernel
theorem dX4_gained_6 : decode cX4_gained 6 = .ok (.getfield 33, 3) := by decide +kernel
theorem dX4_gained_9 : decode cX4_gained 9 = .ok (.getfield 112, 3) := by decide +kernel
theorem dX4_gained_12 : decode cX4_gained 12 = .ok (.iload_n 1, 1) := by decide +kernel
theorem dX4_gained_13 : decode cX4_gained 13 = .ok (.laload, 1) := by decide +kernel
theorem dX4_gained_14 : decode cX4_gained 14 = .ok (.lreturn, 1) := by decide +kernel
set_option maxRecDepth 20000 in
theorem ggX4_place_X4_requireNode : GoodIn wsX4_place wsX4_requireNode := goodIn_ca (goodIn_r _ [7, 8, 9, 10, 11, 16, 17, 18, 19, 20, 21, 22, 28, 29, 30, 31] (by decide +kernel) (by decide +kernel)) (goodIn_sub (fun _ h => List.mem_cons_of_mem _ (List.mem_append_right _ h)) (by decide +kernel))
set_option maxRecDepth 20000 in
theorem gX4_place_X4_requireNode : GoodIn wsX4_place (wsV RX4 64 RX4 yX4_requireNode wsX4_requireNode) := goodIn_app (goodIn_of _ (by decide +kernel)) ggX4_place_X4_requireNode
set_option maxRecDepth 20000 in
theorem ggX4_place_X4_requireCommunity : GoodIn wsX4_place wsX4_requireCommunity := goodIn_ca (goodIn_r _ [15, 8, 9, 10, 11, 16, 17, 18, 19, 20, 21, 22, 28, 29, 30, 31] (by decide +kernel) (by decide +kernel)) (goodIn_sub (fun _ h => List.mem_cons_of_mem _ (List.mem_append_right _ h)) (by decide +kernel))
set_option maxRecDepth 20000 in
theorem gX4_place_X4_requireCommunity : GoodIn wsX4_place (wsV RX4 115 RX4 yX4_requireCommunity wsX4_requireCommunity) := goodIn_app (goodIn_of _ (by decide +kernel)) ggX4_place_X4_requireCommunity
theorem dX4_place_0 : decode cX4_place 0 = .ok (.aload_n 0, 1) := by decide +kernel
theorem dX4_place_1 : decode cX4_place 1 = .ok (.iload_n 1, 1) := by decide +kernel
theorem dX4_place_2 : decode cX4_place 2 = .ok (.invokevirtual 64, 3) := by decide +kernel
theorem dX4_place_5 : decode cX4_place 5 = .ok (.aload_n 0, 1) := by decide +kernel
theorem dX4_place_6 : decode cX4_place 6 = .ok (.iload_n 2, 1) := by decide +kernel
theorem dX4_place_7 : decode cX4_place 7 = .ok (.invokevirtual 115, 3) := by decide +kernel
theorem dX4_place_10 : decode cX4_place 10 = .ok (.aload_n 0, 1) := by decide +kernel
theorem dX4_place_11 : decode cX4_place 11 = .ok (.getfield 19, 3) := by decide +kernel
theorem dX4_place_14 : decode cX4_place 14 = .ok (.getfield 118, 3) := by decide +kernel
theorem dX4_place_17 : decode cX4_place 17 = .ok (.iload_n 1, 1) := by decide +kernel
theorem dX4_place_18 : decode cX4_place 18 = .ok (.iaload, 1) := by decide +kernel
theorem dX4_place_19 : decode cX4_place 19 = .ok (.istore_n 3, 1) := by decide +kernel
theorem dX4_place_20 : decode cX4_place 20 = .ok (.aload_n 0, 1) := by decide +kernel
theorem dX4_place_21 : decode cX4_place 21 = .ok (.getfield 19, 3) := by decide +kernel
theorem dX4_place_24 : decode cX4_place 24 = .ok (.getfield 118, 3) := by decide +kernel
theorem dX4_place_27 : decode cX4_place 27 = .ok (.iload_n 1, 1) := by decide +kernel
theorem dX4_place_28 : decode cX4_place 28 = .ok (.iload_n 2, 1) := by decide +kernel
theorem dX4_place_29 : decode cX4_place 29 = .ok (.iastore, 1) := by decide +kernel
theorem dX4_place_30 : decode cX4_place 30 = .ok (.iload_n 3, 1) := by decide +kernel
theorem dX4_place_31 : decode cX4_place 31 = .ok (.ireturn, 1) := by decide +kernel
set_option maxRecDepth 20000 in
theorem ggX4_take_X4_requireLevel : GoodIn wsX4_take wsX4_requireLevel := goodIn_ca (goodIn_r _ [15, 16, 17, 1, 18, 19, 20, 21, 22, 23, 24, 25, 26, 27, 28, 29] (by decide +kernel) (by decide +kernel)) (goodIn_sub (fun _ h => List.mem_cons_of_mem _ (List.mem_append_right _ h)) (by decide +kernel))
set_option maxRecDepth 20000 in
theorem gX4_take_X4_requireLevel : GoodIn wsX4_take (wsV RX4 91 RX4 yX4_requireLevel wsX4_requireLevel) := goodIn_app (goodIn_of _ (by decide +kernel)) ggX4_take_X4_requireLevel
theorem dX4_take_0 : decode cX4_take 0 = .ok (.aload_n 0, 1) := by decide +kernel
theorem dX4_take_1 : decode cX4_take 1 = .ok (.iload_n 1, 1) := by decide +kernel
theorem dX4_take_2 : decode cX4_take 2 = .ok (.invokevirtual 91, 3) := by decide +kernel
theorem dX4_take_5 : decode cX4_take 5 = .ok (.aload_n 0, 1) := by decide +kernel
theorem dX4_take_6 : decode cX4_take 6 = .ok (.getfield 26, 3) := by decide +kernel
theorem dX4_take_9 : decode cX4_take 9 = .ok (.getfield 100, 3) := by decide +kernel
theorem dX4_take_12 : decode cX4_take 12 = .ok (.iload_n 1, 1) := by decide +kernel
theorem dX4_take_13 : decode cX4_take 13 = .ok (.bipush 40, 2) := by decide +kernel
theorem dX4_take_15 : decode cX4_take 15 = .ok (.imul, 1) := by decide +kernel
theorem dX4_take_16 : decode cX4_take 16 = .ok (.aload_n 0, 1) := by decide +kernel
theorem dX4_take_17 : decode cX4_take 17 = .ok (.getfield 19, 3) := by decide +kernel
theorem dX4_take_20 : decode cX4_take 20 = .ok (.getfield 118, 3) := by decide +kernel
theorem dX4_take_23 : decode cX4_take 23 = .ok (.iconst 0, 1) := by decide +kernel
theorem dX4_take_24 : decode cX4_take 24 = .ok (.aload_n 0, 1) := by decide +kernel
theorem dX4_take_25 : decode cX4_take 25 = .ok (.getfield 10, 3) := by decide +kernel
theorem dX4_take_28 : decode cX4_take 28 = .ok (.getfield 121, 3) := by decide +kernel
theorem dX4_take_31 : decode cX4_take 31 = .ok (.invokestatic 122, 3) := by decide +kernel
theorem dX4_take_34 : decode cX4_take 34 = .ok (.return_, 1) := by decide +kernel
set_option maxRecDepth 20000 in
theorem ggX4_own_X1_tally : GoodIn wsX4_own wsX1_tally := goodIn_r _ [7, 8, 9, 10, 11, 12, 13, 14, 15, 16, 36, 37, 38, 39, 40, 41, 42, 43, 44] (by decide +kernel) (by decide +kernel)
set_option maxRecDepth 20000 in
theorem gX4_own_X1_tally : GoodIn wsX4_own (wsV RX4 128 RX1 yX1_tally wsX1_tally) := goodIn_app (goodIn_of _ (by decide +kernel)) ggX4_own_X1_tally
set_option maxRecDepth 20000 in
theorem ggX4_own_X1_score : GoodIn wsX4_own wsX1_score := goodIn_r _ [20, 10, 11, 21, 22, 9, 23, 24, 25, 26, 27, 28, 41, 42, 43, 44, 36, 37, 38, 39, 40] (by decide +kernel) (by decide +kernel)
set_option maxRecDepth 20000 in
theorem gX4_own_X1_score : GoodIn wsX4_own (wsV RX4 132 RX1 yX1_score wsX1_score) := goodIn_app (goodIn_of _ (by decide +kernel)) ggX4_own_X1_score
theorem dX4_own_0 : decode cX4_own 0 = .ok (.aload_n 0, 1) := by decide +kernel
theorem dX4_own_1 : decode cX4_own 1 = .ok (.getfield 19, 3) := by decide +kernel
theorem dX4_own_4 : decode cX4_own 4 = .ok (.aload_n 0, 1) := by decide +kernel
theorem dX4_own_5 : decode cX4_own 5 = .ok (.getfield 10, 3) := by decide +kernel
theorem dX4_own_8 : decode cX4_own 8 = .ok (.invokevirtual 128, 3) := by decide +kernel
theorem dX4_own_11 : decode cX4_own 11 = .ok (.aload_n 0, 1) := by decide +kernel
theorem dX4_own_12 : decode cX4_own 12 = .ok (.getfield 19, 3) := by decide +kernel
theorem dX4_own_15 : decode cX4_own 15 = .ok (.aload_n 0, 1) := by decide +kernel
theorem dX4_own_16 : decode cX4_own 16 = .ok (.getfield 10, 3) := by decide +kernel
theorem dX4_own_19 : decode cX4_own 19 = .ok (.invokevirtual 132, 3) := by decide +kernel
theorem dX4_own_22 : decode cX4_own 22 = .ok (.lreturn, 1) := by decide +kernel
set_option maxRecDepth 20000 in
theorem ggX4_gain_X4_requireNode : GoodIn wsX4_gain wsX4_requireNode := goodIn_ca (goodIn_r _ [7, 8, 9, 2, 10, 47, 48, 49, 50, 51, 52, 53, 54, 55, 56, 57] (by decide +kernel) (by decide +kernel)) (goodIn_sub (fun _ h => List.mem_cons_of_mem _ (List.mem_append_right _ h)) (by decide +kernel))
set_option maxRecDepth 20000 in
theorem gX4_gain_X4_requireNode : GoodIn wsX4_gain (wsV RX4 64 RX4 yX4_requireNode wsX4_requireNode) := goodIn_app (goodIn_of _ (by decide +kernel)) ggX4_gain_X4_requireNode
set_option maxRecDepth 20000 in
theorem ggX4_gain_X4_requireCommunity : GoodIn wsX4_gain wsX4_requireCommunity := goodIn_ca (goodIn_r _ [14, 8, 9, 2, 10, 47, 48, 49, 50, 51, 52, 53, 54, 55, 56, 57] (by decide +kernel) (by decide +kernel)) (goodIn_sub (fun _ h => List.mem_cons_of_mem _ (List.mem_append_right _ h)) (by decide +kernel))
set_option maxRecDepth 20000 in
theorem gX4_gain_X4_requireCommunity : GoodIn wsX4_gain (wsV RX4 115 RX4 yX4_requireCommunity wsX4_requireCommunity) := goodIn_app (goodIn_of _ (by decide +kernel)) ggX4_gain_X4_requireCommunity
set_option maxRecDepth 20000 in
theorem ggX4_gain_X1_tally : GoodIn wsX4_gain wsX1_tally := goodIn_r _ [19, 20, 21, 22, 23, 24, 25, 26, 27, 28, 58, 59, 60, 61, 62, 54, 55, 56, 57] (by decide +kernel) (by decide +kernel)
set_option maxRecDepth 20000 in
theorem gX4_gain_X1_tally : GoodIn wsX4_gain (wsV RX4 128 RX1 yX1_tally wsX1_tally) := goodIn_app (goodIn_of _ (by decide +kernel)) ggX4_gain_X1_tally
set_option maxRecDepth 20000 in
theorem ggX4_gain_X1_tie : GoodIn wsX4_gain wsX1_tie := goodIn_r _ [32, 33, 22, 23, 25, 26, 27, 28, 34, 35, 36, 37, 38, 39, 58, 59, 60, 61, 62, 54, 55, 56, 57] (by decide +kernel) (by decide +kernel)
set_option maxRecDepth 20000 in
theorem gX4_gain_X1_tie : GoodIn wsX4_gain (wsV RX4 136 RX1 yX1_tie wsX1_tie) := goodIn_app (goodIn_of _ (by decide +kernel)) ggX4_gain_X1_tie
set_option maxRecDepth 20000 in
theorem ggX4_gain_X1_gainInto : GoodIn wsX4_gain wsX1_gainInto := goodIn_r _ [43, 23, 24, 21, 33, 44, 45, 46, 58, 59, 60, 61, 62, 54, 55, 56, 57] (by decide +kernel) (by decide +kernel)
set_option maxRecDepth 20000 in
theorem gX4_gain_X1_gainInto : GoodIn wsX4_gain (wsV RX4 140 RX1 yX1_gainInto wsX1_gainInto) := goodIn_app (goodIn_of _ (by decide +kernel)) ggX4_gain_X1_gainInto
theorem dX4_gain_0 : decode cX4_gain 0 = .ok (.aload_n 0, 1) := by decide +kernel
theorem dX4_gain_1 : decode cX4_gain 1 = .ok (.iload_n 1, 1) := by decide +kernel
theorem dX4_gain_2 : decode cX4_gain 2 = .ok (.invokevirtual 64, 3) := by decide +kernel
theorem dX4_gain_5 : decode cX4_gain 5 = .ok (.aload_n 0, 1) := by decide +kernel
theorem dX4_gain_6 : decode cX4_gain 6 = .ok (.iload_n 2, 1) := by decide +kernel
theorem dX4_gain_7 : decode cX4_gain 7 = .ok (.invokevirtual 115, 3) := by decide +kernel
theorem dX4_gain_10 : decode cX4_gain 10 = .ok (.aload_n 0, 1) := by decide +kernel
theorem dX4_gain_11 : decode cX4_gain 11 = .ok (.getfield 19, 3) := by decide +kernel
theorem dX4_gain_14 : decode cX4_gain 14 = .ok (.aload_n 0, 1) := by decide +kernel
theorem dX4_gain_15 : decode cX4_gain 15 = .ok (.getfield 10, 3) := by decide +kernel
theorem dX4_gain_18 : decode cX4_gain 18 = .ok (.invokevirtual 128, 3) := by decide +kernel
theorem dX4_gain_21 : decode cX4_gain 21 = .ok (.aload_n 0, 1) := by decide +kernel
theorem dX4_gain_22 : decode cX4_gain 22 = .ok (.getfield 19, 3) := by decide +kernel
theorem dX4_gain_25 : decode cX4_gain 25 = .ok (.aload_n 0, 1) := by decide +kernel
theorem dX4_gain_26 : decode cX4_gain 26 = .ok (.getfield 10, 3) := by decide +kernel
theorem dX4_gain_29 : decode cX4_gain 29 = .ok (.iload_n 1, 1) := by decide +kernel
theorem dX4_gain_30 : decode cX4_gain 30 = .ok (.invokevirtual 136, 3) := by decide +kernel
theorem dX4_gain_33 : decode cX4_gain 33 = .ok (.aload_n 0, 1) := by decide +kernel
theorem dX4_gain_34 : decode cX4_gain 34 = .ok (.getfield 19, 3) := by decide +kernel
theorem dX4_gain_37 : decode cX4_gain 37 = .ok (.aload_n 0, 1) := by decide +kernel
theorem dX4_gain_38 : decode cX4_gain 38 = .ok (.getfield 10, 3) := by decide +kernel
theorem dX4_gain_41 : decode cX4_gain 41 = .ok (.iload_n 1, 1) := by decide +kernel
theorem dX4_gain_42 : decode cX4_gain 42 = .ok (.iload_n 2, 1) := by decide +kernel
theorem dX4_gain_43 : decode cX4_gain 43 = .ok (.invokevirtual 140, 3) := by decide +kernel
theorem dX4_gain_46 : decode cX4_gain 46 = .ok (.lreturn, 1) := by decide +kernel
set_option maxRecDepth 20000 in
theorem ggX4_about_X4_requireNode : GoodIn wsX4_about wsX4_requireNode := goodIn_ca (goodIn_r _ [13, 1, 2, 3, 4, 20, 21, 22, 23, 24, 25, 26, 27, 28, 29, 30] (by decide +kernel) (by decide +kernel)) (goodIn_sub (fun _ h => List.mem_cons_of_mem _ (List.mem_append_right _ h)) (by decide +kernel))
set_option maxRecDepth 20000 in
theorem gX4_about_X4_requireNode : GoodIn wsX4_about (wsV RX4 64 RX4 yX4_requireNode wsX4_requireNode) := goodIn_app (goodIn_of _ (by decide +kernel)) ggX4_about_X4_requireNode
set_option maxRecDepth 20000 in
theorem ggX4_about_X0_between : GoodIn wsX4_about wsX0_between := goodIn_r _ [18, 19, 27, 28, 29, 30] (by decide +kernel) (by decide +kernel)
set_option maxRecDepth 20000 in
theorem gX4_about_X0_between : GoodIn wsX4_about (wsV RX4 69 RX0 yX0_between wsX0_between) := goodIn_app (goodIn_of _ (by decide +kernel)) ggX4_about_X0_between
theorem dX4_about_0 : decode cX4_about 0 = .ok (.iload_n 1, 1) := by decide +kernel
theorem dX4_about_1 : decode cX4_about 1 = .ok (.ifCond .ne 11, 3) := by decide +kernel
theorem dX4_about_4 : decode cX4_about 4 = .ok (.aload_n 0, 1) := by decide +kernel
theorem dX4_about_5 : decode cX4_about 5 = .ok (.getfield 10, 3) := by decide +kernel
theorem dX4_about_8 : decode cX4_about 8 = .ok (.getfield 121, 3) := by decide +kernel
theorem dX4_about_11 : decode cX4_about 11 = .ok (.ireturn, 1) := by decide +kernel
theorem dX4_about_12 : decode cX4_about 12 = .ok (.iload_n 1, 1) := by decide +kernel
theorem dX4_about_13 : decode cX4_about 13 = .ok (.iconst 1, 1) := by decide +kernel
theorem dX4_about_14 : decode cX4_about 14 = .ok (.if_icmp .ne 11, 3) := by decide +kernel
theorem dX4_about_17 : decode cX4_about 17 = .ok (.aload_n 0, 1) := by decide +kernel
theorem dX4_about_18 : decode cX4_about 18 = .ok (.getfield 10, 3) := by decide +kernel
theorem dX4_about_21 : decode cX4_about 21 = .ok (.getfield 73, 3) := by decide +kernel
theorem dX4_about_24 : decode cX4_about 24 = .ok (.ireturn, 1) := by decide +kernel
theorem dX4_about_25 : decode cX4_about 25 = .ok (.iload_n 1, 1) := by decide +kernel
theorem dX4_about_26 : decode cX4_about 26 = .ok (.ifCond .lt 8, 3) := by decide +kernel
theorem dX4_about_29 : decode cX4_about 29 = .ok (.iload_n 1, 1) := by decide +kernel
theorem dX4_about_30 : decode cX4_about 30 = .ok (.iconst 4, 1) := by decide +kernel
theorem dX4_about_31 : decode cX4_about 31 = .ok (.if_icmp .le 13, 3) := by decide +kernel
theorem dX4_about_34 : decode cX4_about 34 = .ok (.new 144, 3) := by decide +kernel
theorem dX4_about_37 : decode cX4_about 37 = .ok (.dup, 1) := by decide +kernel
theorem dX4_about_38 : decode cX4_about 38 = .ok (.ldc 146, 2) := by decide +kernel
theorem dX4_about_40 : decode cX4_about 40 = .ok (.invokespecial 148, 3) := by decide +kernel
theorem dX4_about_43 : decode cX4_about 43 = .ok (.athrow, 1) := by decide +kernel
theorem dX4_about_44 : decode cX4_about 44 = .ok (.aload_n 0, 1) := by decide +kernel
theorem dX4_about_45 : decode cX4_about 45 = .ok (.iload_n 2, 1) := by decide +kernel
theorem dX4_about_46 : decode cX4_about 46 = .ok (.invokevirtual 64, 3) := by decide +kernel
theorem dX4_about_49 : decode cX4_about 49 = .ok (.iload_n 1, 1) := by decide +kernel
theorem dX4_about_50 : decode cX4_about 50 = .ok (.iconst 2, 1) := by decide +kernel
theorem dX4_about_51 : decode cX4_about 51 = .ok (.if_icmp .ne 13, 3) := by decide +kernel
theorem dX4_about_54 : decode cX4_about 54 = .ok (.aload_n 0, 1) := by decide +kernel
theorem dX4_about_55 : decode cX4_about 55 = .ok (.getfield 10, 3) := by decide +kernel
theorem dX4_about_58 : decode cX4_about 58 = .ok (.getfield 149, 3) := by decide +kernel
theorem dX4_about_61 : decode cX4_about 61 = .ok (.iload_n 2, 1) := by decide +kernel
theorem dX4_about_62 : decode cX4_about 62 = .ok (.iaload, 1) := by decide +kernel
theorem dX4_about_63 : decode cX4_about 63 = .ok (.ireturn, 1) := by decide +kernel
theorem dX4_about_64 : decode cX4_about 64 = .ok (.iload_n 1, 1) := by decide +kernel
theorem dX4_about_65 : decode cX4_about 65 = .ok (.iconst 3, 1) := by decide +kernel
theorem dX4_about_66 : decode cX4_about 66 = .ok (.if_icmp .ne 15, 3) := by decide +kernel
theorem dX4_about_69 : decode cX4_about 69 = .ok (.aload_n 0, 1) := by decide +kernel
theorem dX4_about_70 : decode cX4_about 70 = .ok (.getfield 10, 3) := by decide +kernel
theorem dX4_about_73 : decode cX4_about 73 = .ok (.iload_n 2, 1) := by decide +kernel
theorem dX4_about_74 : decode cX4_about 74 = .ok (.iload_n 2, 1) := by decide +kernel
theorem dX4_about_75 : decode cX4_about 75 = .ok (.invokevirtual 69, 3) := by decide +kernel
theorem dX4_about_78 : decode cX4_about 78 = .ok (.goto 12, 3) := by decide +kernel
theorem dX4_about_81 : decode cX4_about 81 = .ok (.aload_n 0, 1) := by decide +kernel
theorem dX4_about_82 : decode cX4_about 82 = .ok (.getfield 19, 3) := by decide +kernel
theorem dX4_about_85 : decode cX4_about 85 = .ok (.getfield 118, 3) := by decide +kernel
theorem dX4_about_88 : decode cX4_about 88 = .ok (.iload_n 2, 1) := by decide +kernel
theorem dX4_about_89 : decode cX4_about 89 = .ok (.iaload, 1) := by decide +kernel
theorem dX4_about_90 : decode cX4_about 90 = .ok (.ireturn, 1) := by decide +kernel
theorem dX4_requireNode_0 : decode cX4_requireNode 0 = .ok (.iload_n 1, 1) := by decide +kernel
theorem dX4_requireNode_1 : decode cX4_requireNode 1 = .ok (.ifCond .lt 14, 3) := by decide +kernel
theorem dX4_requireNode_4 : decode cX4_requireNode 4 = .ok (.iload_n 1, 1) := by decide +kernel
theorem dX4_requireNode_5 : decode cX4_requireNode 5 = .ok (.aload_n 0, 1) := by decide +kernel
theorem dX4_requireNode_6 : decode cX4_requireNode 6 = .ok (.getfield 10, 3) := by decide +kernel
theorem dX4_requireNode_9 : decode cX4_requireNode 9 = .ok (.getfield 121, 3) := by decide +kernel
theorem dX4_requireNode_12 : decode cX4_requireNode 12 = .ok (.if_icmp .lt 13, 3) := by decide +kernel
theorem dX4_requireNode_15 : decode cX4_requireNode 15 = .ok (.new 144, 3) := by decide +kernel
theorem dX4_requireNode_18 : decode cX4_requireNode 18 = .ok (.dup, 1) := by decide +kernel
theorem dX4_requireNode_19 : decode cX4_requireNode 19 = .ok (.ldc 152, 2) := by decide +kernel
theorem dX4_requireNode_21 : decode cX4_requireNode 21 = .ok (.invokespecial 148, 3) := by decide +kernel
theorem dX4_requireNode_24 : decode cX4_requireNode 24 = .ok (.athrow, 1) := by decide +kernel
theorem dX4_requireNode_25 : decode cX4_requireNode 25 = .ok (.return_, 1) := by decide +kernel
theorem dX4_requireCommunity_0 : decode cX4_requireCommunity 0 = .ok (.iload_n 1, 1) := by decide +kernel
theorem dX4_requireCommunity_1 : decode cX4_requireCommunity 1 = .ok (.ifCond .lt 14, 3) := by decide +kernel
theorem dX4_requireCommunity_4 : decode cX4_requireCommunity 4 = .ok (.iload_n 1, 1) := by decide +kernel
theorem dX4_requireCommunity_5 : decode cX4_requireCommunity 5 = .ok (.aload_n 0, 1) := by decide +kernel
theorem dX4_requireCommunity_6 : decode cX4_requireCommunity 6 = .ok (.getfield 10, 3) := by decide +kernel
theorem dX4_requireCommunity_9 : decode cX4_requireCommunity 9 = .ok (.getfield 121, 3) := by decide +kernel
theorem dX4_requireCommunity_12 : decode cX4_requireCommunity 12 = .ok (.if_icmp .lt 13, 3) := by decide +kernel
theorem dX4_requireCommunity_15 : decode cX4_requireCommunity 15 = .ok (.new 144, 3) := by decide +kernel
theorem dX4_requireCommunity_18 : decode cX4_requireCommunity 18 = .ok (.dup, 1) := by decide +kernel
theorem dX4_requireCommunity_19 : decode cX4_requireCommunity 19 = .ok (.ldc 154, 2) := by decide +kernel
theorem dX4_requireCommunity_21 : decode cX4_requireCommunity 21 = .ok (.invokespecial 148, 3) := by decide +kernel
theorem dX4_requireCommunity_24 : decode cX4_requireCommunity 24 = .ok (.athrow, 1) := by decide +kernel
theorem dX4_requireCommunity_25 : decode cX4_requireCommunity 25 = .ok (.return_, 1) := by decide +kernel
theorem dX4_requireLevel_0 : decode cX4_requireLevel 0 = .ok (.iload_n 1, 1) := by decide +kernel
theorem dX4_requireLevel_1 : decode cX4_requireLevel 1 = .ok (.ifCond .lt 14, 3) := by decide +kernel
theorem dX4_requireLevel_4 : decode cX4_requireLevel 4 = .ok (.iload_n 1, 1) := by decide +kernel
theorem dX4_requireLevel_5 : decode cX4_requireLevel 5 = .ok (.aload_n 0, 1) := by decide +kernel
theorem dX4_requireLevel_6 : decode cX4_requireLevel 6 = .ok (.getfield 26, 3) := by decide +kernel
theorem dX4_requireLevel_9 : decode cX4_requireLevel 9 = .ok (.getfield 85, 3) := by decide +kernel
theorem dX4_requireLevel_12 : decode cX4_requireLevel 12 = .ok (.if_icmp .lt 13, 3) := by decide +kernel
theorem dX4_requireLevel_15 : decode cX4_requireLevel 15 = .ok (.new 144, 3) := by decide +kernel
theorem dX4_requireLevel_18 : decode cX4_requireLevel 18 = .ok (.dup, 1) := by decide +kernel
theorem dX4_requireLevel_19 : decode cX4_requireLevel 19 = .ok (.ldc 156, 2) := by decide +kernel
theorem dX4_requireLevel_21 : decode cX4_requireLevel 21 = .ok (.invokespecial 148, 3) := by decide +kernel
theorem dX4_requireLevel_24 : decode cX4_requireLevel 24 = .ok (.athrow, 1) := by decide +kernel
theorem dX4_requireLevel_25 : decode cX4_requireLevel 25 = .ok (.return_, 1) := by decide +kernel
theorem dX4_requireTold_0 : decode cX4_requireTold 0 = .ok (.iload_n 1, 1) := by decide +kernel
theorem dX4_requireTold_1 : decode cX4_requireTold 1 = .ok (.ifCond .lt 21, 3) := by decide +kernel
theorem dX4_requireTold_4 : decode cX4_requireTold 4 = .ok (.iload_n 1, 1) := by decide +kernel
theorem dX4_requireTold_5 : decode cX4_requireTold 5 = .ok (.aload_n 0, 1) := by decide +kernel
theorem dX4_requireTold_6 : decode cX4_requireTold 6 = .ok (.getfield 33, 3) := by decide +kernel
theorem dX4_requireTold_9 : decode cX4_requireTold 9 = .ok (.getfield 107, 3) := by decide +kernel
theorem dX4_requireTold_12 : decode cX4_requireTold 12 = .ok (.if_icmp .ge 10, 3) := by decide +kernel
theorem dX4_requireTold_15 : decode cX4_requireTold 15 = .ok (.iload_n 1, 1) := by decide +kernel
theorem dX4_requireTold_16 : decode cX4_requireTold 16 = .ok (.sipush 400, 3) := by decide +kernel
theorem dX4_requireTold_19 : decode cX4_requireTold 19 = .ok (.if_icmp .lt 13, 3) := by decide +kernel
theorem dX4_requireTold_22 : decode cX4_requireTold 22 = .ok (.new 144, 3) := by decide +kernel
theorem dX4_requireTold_25 : decode cX4_requireTold 25 = .ok (.dup, 1) := by decide +kernel
theorem dX4_requireTold_26 : decode cX4_requireTold 26 = .ok (.ldc 158, 2) := by decide +kernel
theorem dX4_requireTold_28 : decode cX4_requireTold 28 = .ok (.invokespecial 148, 3) := by decide +kernel
theorem dX4_requireTold_31 : decode cX4_requireTold 31 = .ok (.athrow, 1) := by decide +kernel
theorem dX4_requireTold_32 : decode cX4_requireTold 32 = .ok (.return_, 1) := by decide +kernel
theorem dX4_requireFact_0 : decode cX4_requireFact 0 = .ok (.iload_n 1, 1) := by decide +kernel
theorem dX4_requireFact_1 : decode cX4_requireFact 1 = .ok (.ifCond .lt 8, 3) := by decide +kernel
theorem dX4_requireFact_4 : decode cX4_requireFact 4 = .ok (.iload_n 1, 1) := by decide +kernel
theorem dX4_requireFact_5 : decode cX4_requireFact 5 = .ok (.iconst 4, 1) := by decide +kernel
theorem dX4_requireFact_6 : decode cX4_requireFact 6 = .ok (.if_icmp .lt 13, 3) := by decide +kernel
theorem dX4_requireFact_9 : decode cX4_requireFact 9 = .ok (.new 144, 3) := by decide +kernel
theorem dX4_requireFact_12 : decode cX4_requireFact 12 = .ok (.dup, 1) := by decide +kernel
theorem dX4_requireFact_13 : decode cX4_requireFact 13 = .ok (.ldc 160, 2) := by decide +kernel
theorem dX4_requireFact_15 : decode cX4_requireFact 15 = .ok (.invokespecial 148, 3) := by decide +kernel
theorem dX4_requireFact_18 : decode cX4_requireFact 18 = .ok (.athrow, 1) := by decide +kernel
theorem dX4_requireFact_19 : decode cX4_requireFact 19 = .ok (.return_, 1) := by decide +kernel
theorem dX4_forgetRun_0 : decode cX4_forgetRun 0 = .ok (.aload_n 0, 1) := by decide +kernel
theorem dX4_forgetRun_1 : decode cX4_forgetRun 1 = .ok (.getfield 26, 3) := by decide +kernel
theorem dX4_forgetRun_4 : decode cX4_forgetRun 4 = .ok (.iconst 0, 1) := by decide +kernel
theorem dX4_forgetRun_5 : decode cX4_forgetRun 5 = .ok (.putfield 85, 3) := by decide +kernel
theorem dX4_forgetRun_8 : decode cX4_forgetRun 8 = .ok (.aload_n 0, 1) := by decide +kernel
theorem dX4_forgetRun_9 : decode cX4_forgetRun 9 = .ok (.getfield 33, 3) := by decide +kernel
theorem dX4_forgetRun_12 : decode cX4_forgetRun 12 = .ok (.iconst 0, 1) := by decide +kernel
theorem dX4_forgetRun_13 : decode cX4_forgetRun 13 = .ok (.putfield 107, 3) := by decide +kernel
theorem dX4_forgetRun_16 : decode cX4_forgetRun 16 = .ok (.return_, 1) := by decide +kernel
set_option maxRecDepth 20000 in
theorem ggX4_makeLevels_X0_contract : GoodIn wsX4_makeLevels wsX0_contract := goodIn_r _ [9, 10, 11, 12, 13, 8, 14, 15, 16, 17, 18, 19, 20, 21, 22, 23, 24, 25, 26, 27, 28, 29, 123, 124, 125, 126] (by decide +kernel) (by decide +kernel)
set_option maxRecDepth 20000 in
theorem gX4_makeLevels_X0_contract : GoodIn wsX4_makeLevels (wsV RX4 162 RX0 yX0_contract wsX0_contract) := goodIn_app (goodIn_of _ (by decide +kernel)) ggX4_makeLevels_X0_contract
set_option maxRecDepth 20000 in
theorem ggX4_makeLevels_X4_makeLevel : GoodIn wsX4_makeLevels wsX4_makeLevel := goodIn_r _ [34, 35, 4, 2, 36, 37, 38, 1, 3, 39, 40, 41, 42, 43, 44, 45, 46, 47, 48, 49, 50, 51, 52, 53, 54, 55, 19, 20, 21, 56, 57, 58, 33, 59, 60, 61, 62, 63, 64, 65, 23, 24, 8, 25, 15, 66, 67, 68, 69, 70, 71, 72, 73, 74, 75, 76, 77, 78, 79, 80, 81, 82, 83, 84, 85, 86, 87, 88, 89, 90, 91, 92, 93, 94, 95, 96, 97, 98, 99, 100, 101, 102, 103, 104, 105, 106, 107, 108, 109, 110, 111, 112, 113, 114, 115, 5, 6, 7, 9, 10, 11, 12, 13, 14, 16, 17, 18, 22, 26, 27, 28, 29, 116, 117, 118, 119, 120, 121, 122, 123, 124, 125, 126, 127, 128, 129, 130, 131, 132, 133, 134, 135, 136, 137, 138] (by decide +kernel) (by decide +kernel)
set_option maxRecDepth 20000 in
theorem gX4_makeLevels_X4_makeLevel : GoodIn wsX4_makeLevels (wsV RX4 166 RX4 yX4_makeLevel wsX4_makeLevel) := goodIn_app (goodIn_of _ (by decide +kernel)) ggX4_makeLevels_X4_makeLevel
