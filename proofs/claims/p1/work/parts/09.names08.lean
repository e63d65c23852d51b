set_option maxRecDepth 20000 in
theorem wsL_law_u40 : ∀ w ∈ wsX40, w ∈ lw_tbl := by decide +kernel
set_option maxRecDepth 20000 in
theorem wsL_law_u50 : ∀ w ∈ wsX50, w ∈ lw_tbl := by decide +kernel
set_option maxRecDepth 20000 in
theorem wsL_law_u00 : ∀ w ∈ wsX00, w ∈ lw_tbl := by decide +kernel
set_option maxRecDepth 20000 in
theorem wsL_law_u10 : ∀ w ∈ wsX10, w ∈ lw_tbl := by decide +kernel
set_option maxRecDepth 20000 in
theorem wsL_law_u20 : ∀ w ∈ wsX20, w ∈ lw_tbl := by decide +kernel
set_option maxRecDepth 20000 in
theorem wsL_law_u30 : ∀ w ∈ wsX30, w ∈ lw_tbl := by decide +kernel
theorem wsL_law_in0 : ∀ w ∈ wsL_law0, w ∈ lw_tbl := fun w => (fun h => (List.mem_append.mp h).elim (fun h => (List.mem_append.mp h).elim (fun h => (List.mem_append.mp h).elim (fun h => (List.mem_append.mp h).elim (fun h => (List.mem_append.mp h).elim (fun h => (List.mem_append.mp h).elim (fun h => (List.mem_append.mp h).elim (fun h => (List.mem_append.mp h).elim (wsL_law_i1 w) (fun h => (List.mem_append.mp h).elim (wsL_law_i2 w) (fun h => (List.mem_append.mp h).elim (wsL_law_i3 w) (fun h => (List.mem_append.mp h).elim (wsL_law_i4 w) (fun h => (List.mem_append.mp h).elim (wsL_law_i5 w) (fun h => (List.mem_append.mp h).elim (wsL_law_i6 w) (fun h => (List.mem_append.mp h).elim (wsL_law_i7 w) (fun h => (List.mem_append.mp h).elim (wsL_law_i8 w) (fun h => (List.mem_append.mp h).elim (wsL_law_i9 w) (fun h => (List.mem_append.mp h).elim (wsL_law_i10 w) (fun h => (List.mem_append.mp h).elim (wsL_law_i11 w) (fun h => (List.mem_append.mp h).elim (wsL_law_i12 w) (fun h => (List.mem_append.mp h).elim (wsL_law_i13 w) (fun h => (List.mem_append.mp h).elim (wsL_law_i14 w) (fun h => (List.mem_append.mp h).elim (wsL_law_i15 w) (fun h => (List.mem_append.mp h).elim (wsL_law_i16 w) (fun h => (List.mem_append.mp h).elim (wsL_law_i17 w) (fun h => (List.mem_append.mp h).elim (wsL_law_i18 w) (wsL_law_i19 w))))))))))))))))))) (wsL_law_u40 w)) (wsL_law_u50 w)) (wsL_law_u00 w)) (wsL_law_u10 w)) (wsL_law_u20 w)) (wsL_law_u30 w)) (fun h => absurd h List.not_mem_nil))
theorem wsL_law_x0 : ∀ w ∈ (vx_atS RX4 51 "java/lang/IllegalArgumentException" ["java/lang/RuntimeException", "java/lang/Exception"]).filter goodWord, w ∈ lw_tbl := by decide +kernel
theorem wsL_law_x1 : ∀ w ∈ (vx_atS RX4 148 "java/lang/IndexOutOfBoundsException" ["java/lang/RuntimeException", "java/lang/Exception"]).filter goodWord, w ∈ lw_tbl := by decide +kernel
theorem wsL_law_in : ∀ w ∈ wsL_law, w ∈ lw_tbl := fun w h => (List.mem_append.mp h).elim (fun h => (List.mem_append.mp h).elim (fun h => wsL_law_in0 w h) (fun h => wsL_law_x0 w h)) (fun h => wsL_law_x1 w h)
theorem inlX0 : ∀ w ∈ wsX00, w ∈ wsL_law := fun _ h => List.mem_append_left _ (List.mem_append_left _ (List.mem_append_left _ (List.mem_append_left _ (List.mem_append_left _ (List.mem_append_left _ (List.mem_append_right _ h))))))
theorem inX0 : ∀ w ∈ wsX00, w ∈ lw_tbl := fun w h => wsL_law_in w (inlX0 w h)
theorem inlX1 : ∀ w ∈ wsX10, w ∈ wsL_law := fun _ h => List.mem_append_left _ (List.mem_append_left _ (List.mem_append_left _ (List.mem_append_left _ (List.mem_append_left _ (List.mem_append_right _ h)))))
theorem inX1 : ∀ w ∈ wsX10, w ∈ lw_tbl := fun w h => wsL_law_in w (inlX1 w h)
theorem inlX2 : ∀ w ∈ wsX20, w ∈ wsL_law := fun _ h => List.mem_append_left _ (List.mem_append_left _ (List.mem_append_left _ (List.mem_append_left _ (List.mem_append_right _ h))))
theorem inX2 : ∀ w ∈ wsX20, w ∈ lw_tbl := fun w h => wsL_law_in w (inlX2 w h)
theorem inlX3 : ∀ w ∈ wsX30, w ∈ wsL_law := fun _ h => List.mem_append_left _ (List.mem_append_left _ (List.mem_append_left _ (List.mem_append_right _ h)))
theorem inX3 : ∀ w ∈ wsX30, w ∈ lw_tbl := fun w h => wsL_law_in w (inlX3 w h)
theorem inlX4 : ∀ w ∈ wsX40, w ∈ wsL_law := fun _ h => List.mem_append_left _ (List.mem_append_left _ (List.mem_append_left _ (List.mem_append_left _ (List.mem_append_left _ (List.mem_append_left _ (List.mem_append_left _ (List.mem_append_left _ (List.mem_append_right _ h))))))))
theorem inX4 : ∀ w ∈ wsX40, w ∈ lw_tbl := fun w h => wsL_law_in w (inlX4 w h)
theorem inlX5 : ∀ w ∈ wsX50, w ∈ wsL_law := fun _ h => List.mem_append_left _ (List.mem_append_left _ (List.mem_append_left _ (List.mem_append_left _ (List.mem_append_left _ (List.mem_append_left _ (List.mem_append_left _ (List.mem_append_right _ h)))))))
theorem inX5 : ∀ w ∈ wsX50, w ∈ lw_tbl := fun w h => wsL_law_in w (inlX5 w h)
theorem inJ0 : ∀ w ∈ wsJ00, w ∈ lw_tbl := by decide +kernel
theorem inJ10 : ∀ w ∈ wsJ100, w ∈ lw_tbl := by decide +kernel
theorem inJ7 : ∀ w ∈ wsJ70, w ∈ lw_tbl := by decide +kernel
theorem dX0_init_0 : decode cX0_init 0 = .ok (.aload_n 0, 1) := by decide +kernel
theorem dX0_init_1 : decode cX0_init 1 = .ok (.invokespecial 3, 3) := by decide +kernel
theorem dX0_init_4 : decode cX0_init 4 = .ok (.aload_n 0, 1) := by decide +kernel
theorem dX0_init_5 : decode cX0_init 5 = .ok (.sipush 1600, 3) := by decide +kernel
theorem dX0_init_8 : decode cX0_init 8 = .ok (.newarray .int, 2) := by decide +kernel
theorem dX0_init_10 : decode cX0_init 10 = .ok (.putfield 9, 3) := by decide +kernel
theorem dX0_init_13 : decode cX0_init 13 = .ok (.aload_n 0, 1) := by decide +kernel
theorem dX0_init_14 : decode cX0_init 14 = .ok (.bipush 40, 2) := by decide +kernel
theorem dX0_init_16 : decode cX0_init 16 = .ok (.newarray .int, 2) := by decide +kernel
theorem dX0_init_18 : decode cX0_init 18 = .ok (.putfield 15, 3) := by decide +kernel
theorem dX0_init_21 : decode cX0_init 21 = .ok (.aload_n 0, 1) := by decide +kernel
theorem dX0_init_22 : decode cX0_init 22 = .ok (.iconst 1, 1) := by decide +kernel
theorem dX0_init_23 : decode cX0_init 23 = .ok (.putfield 18, 3) := by decide +kernel
theorem dX0_init_26 : decode cX0_init 26 = .ok (.aload_n 0, 1) := by decide +kernel
theorem dX0_init_27 : decode cX0_init 27 = .ok (.iconst 0, 1) := by decide +kernel
theorem dX0_init_28 : decode cX0_init 28 = .ok (.putfield 22, 3) := by decide +kernel
theorem dX0_init_31 : decode cX0_init 31 = .ok (.return_, 1) := by decide +kernel
set_option maxRecDepth 20000 in
theorem ggX0_empty_J7_fill_53178 : GoodIn wsX0_empty wsJ7_fill_53178 := goodIn_r _ [8] (by decide +kernel) (by decide +kernel)
set_option maxRecDepth 20000 in
theorem gX0_empty_J7_fill_53178 : GoodIn wsX0_empty (va_wsS RX0 25 yJ7_fill_53178 wsJ7_fill_53178) := goodIn_app (goodIn_of _ (by decide +kernel)) ggX0_empty_J7_fill_53178
theorem dX0_empty_0 : decode cX0_empty 0 = .ok (.aload_n 0, 1) := by decide +kernel
theorem dX0_empty_1 : decode cX0_empty 1 = .ok (.getfield 9, 3) := by decide +kernel
theorem dX0_empty_4 : decode cX0_empty 4 = .ok (.iconst 0, 1) := by decide +kernel
theorem dX0_empty_5 : decode cX0_empty 5 = .ok (.invokestatic 25, 3) := by decide +kernel
theorem dX0_empty_8 : decode cX0_empty 8 = .ok (.aload_n 0, 1) := by decide +kernel
theorem dX0_empty_9 : decode cX0_empty 9 = .ok (.getfield 15, 3) := by decide +kernel
theorem dX0_empty_12 : decode cX0_empty 12 = .ok (.iconst 0, 1) := by decide +kernel
theorem dX0_empty_13 : decode cX0_empty 13 = .ok (.invokestatic 25, 3) := by decide +kernel
theorem dX0_empty_16 : decode cX0_empty 16 = .ok (.aload_n 0, 1) := by decide +kernel
theorem dX0_empty_17 : decode cX0_empty 17 = .ok (.iload_n 1, 1) := by decide +kernel
theorem dX0_empty_18 : decode cX0_empty 18 = .ok (.putfield 18, 3) := by decide +kernel
theorem dX0_empty_21 : decode cX0_empty 21 = .ok (.aload_n 0, 1) := by decide +kernel
theorem dX0_empty_22 : decode cX0_empty 22 = .ok (.iconst 0, 1) := by decide +kernel
theorem dX0_empty_23 : decode cX0_empty 23 = .ok (.putfield 22, 3) := by decide +kernel
theorem dX0_empty_26 : decode cX0_empty 26 = .ok (.return_, 1) := by decide +kernel
theorem dX0_between_0 : decode cX0_between 0 = .ok (.aload_n 0, 1) := by decide +kernel
theorem dX0_between_1 : decode cX0_between 1 = .ok (.getfield 9, 3) := by decide +kernel
theorem dX0_between_4 : decode cX0_between 4 = .ok (.iload_n 1, 1) := by decide +kernel
theorem dX0_between_5 : decode cX0_between 5 = .ok (.bipush 40, 2) := by decide +kernel
theorem dX0_between_7 : decode cX0_between 7 = .ok (.imul, 1) := by decide +kernel
theorem dX0_between_8 : decode cX0_between 8 = .ok (.iload_n 2, 1) := by decide +kernel
theorem dX0_between_9 : decode cX0_between 9 = .ok (.iadd, 1) := by decide +kernel
theorem dX0_between_10 : decode cX0_between 10 = .ok (.iaload, 1) := by decide +kernel
theorem dX0_between_11 : decode cX0_between 11 = .ok (.ireturn, 1) := by decide +kernel
theorem dX0_add_0 : decode cX0_add 0 = .ok (.aload_n 0, 1) := by decide +kernel
theorem dX0_add_1 : decode cX0_add 1 = .ok (.getfield 9, 3) := by decide +kernel
theorem dX0_add_4 : decode cX0_add 4 = .ok (.iload_n 1, 1) := by decide +kernel
theorem dX0_add_5 : decode cX0_add 5 = .ok (.bipush 40, 2) := by decide +kernel
theorem dX0_add_7 : decode cX0_add 7 = .ok (.imul, 1) := by decide +kernel
theorem dX0_add_8 : decode cX0_add 8 = .ok (.iload_n 2, 1) := by decide +kernel
theorem dX0_add_9 : decode cX0_add 9 = .ok (.iadd, 1) := by decide +kernel
theorem dX0_add_10 : decode cX0_add 10 = .ok (.dup2, 1) := by decide +kernel
theorem dX0_add_11 : decode cX0_add 11 = .ok (.iaload, 1) := by decide +kernel
theorem dX0_add_12 : decode cX0_add 12 = .ok (.iload_n 3, 1) := by decide +kernel
theorem dX0_add_13 : decode cX0_add 13 = .ok (.iadd, 1) := by decide +kernel
theorem dX0_add_14 : decode cX0_add 14 = .ok (.iastore, 1) := by decide +kernel
theorem dX0_add_15 : decode cX0_add 15 = .ok (.iload_n 1, 1) := by decide +kernel
theorem dX0_add_16 : decode cX0_add 16 = .ok (.iload_n 2, 1) := by decide +kernel
theorem dX0_add_17 : decode cX0_add 17 = .ok (.if_icmp .eq 18, 3) := by decide +kernel
theorem dX0_add_20 : decode cX0_add 20 = .ok (.aload_n 0, 1) := by decide +kernel
theorem dX0_add_21 : decode cX0_add 21 = .ok (.getfield 9, 3) := by decide +kernel
theorem dX0_add_24 : decode cX0_add 24 = .ok (.iload_n 2, 1) := by decide +kernel
theorem dX0_add_25 : decode cX0_add 25 = .ok (.bipush 40, 2) := by decide +kernel
theorem dX0_add_27 : decode cX0_add 27 = .ok (.imul, 1) := by decide +kernel
theorem dX0_add_28 : decode cX0_add 28 = .ok (.iload_n 1, 1) := by decide +kernel
theorem dX0_add_29 : decode cX0_add 29 = .ok (.iadd, 1) := by decide +kernel
theorem dX0_add_30 : decode cX0_add 30 = .ok (.dup2, 1) := by decide +kernel
theorem dX0_add_31 : decode cX0_add 31 = .ok (.iaload, 1) := by decide +kernel
theorem dX0_add_32 : decode cX0_add 32 = .ok (.iload_n 3, 1) := by decide +kernel
theorem dX0_add_33 : decode cX0_add 33 = .ok (.iadd, 1) := by decide +kernel
theorem dX0_add_34 : decode cX0_add 34 = .ok (.iastore, 1) := by decide +kernel
theorem dX0_add_35 : decode cX0_add 35 = .ok (.aload_n 0, 1) := by decide +kernel
theorem dX0_add_36 : decode cX0_add 36 = .ok (.getfield 15, 3) := by decide +kernel
theorem dX0_add_39 : decode cX0_add 39 = .ok (.iload_n 1, 1) := by decide +kernel
theorem dX0_add_40 : decode cX0_add 40 = .ok (.dup2, 1) := by decide +kernel
theorem dX0_add_41 : decode cX0_add 41 = .ok (.iaload, 1) := by decide +kernel
theorem dX0_add_42 : decode cX0_add 42 = .ok (.iload_n 3, 1) := by decide +kernel
theorem dX0_add_43 : decode cX0_add 43 = .ok (.iadd, 1) := by decide +kernel
theorem dX0_add_44 : decode cX0_add 44 = .ok (.iastore, 1) := by decide +kernel
theorem dX0_add_45 : decode cX0_add 45 = .ok (.aload_n 0, 1) := by decide +kernel
theorem dX0_add_46 : decode cX0_add 46 = .ok (.getfield 15, 3) := by decide +kernel
theorem dX0_add_49 : decode cX0_add 49 = .ok (.iload_n 2, 1) := by decide +kernel
theorem dX0_add_50 : decode cX0_add 50 = .ok (.dup2, 1) := by decide +kernel
theorem dX0_add_51 : decode cX0_add 51 = .ok (.iaload, 1) := by decide +kernel
theorem dX0_add_52 : decode cX0_add 52 = .ok (.iload_n 3, 1) := by decide +kernel
theorem dX0_add_53 : decode cX0_add 53 = .ok (.iadd, 1) := by decide +kernel
theorem dX0_add_54 : decode cX0_add 54 = .ok (.iastore, 1) := by decide +kernel
theorem dX0_add_55 : decode cX0_add 55 = .ok (.aload_n 0, 1) := by decide +kernel
theorem dX0_add_56 : decode cX0_add 56 = .ok (.dup, 1) := by decide +kernel
theorem dX0_add_57 : decode cX0_add 57 = .ok (.getfield 22, 3) := by decide +kernel
theorem dX0_add_60 : decode cX0_add 60 = .ok (.iload_n 3, 1) := by decide +kernel
theorem dX0_add_61 : decode cX0_add 61 = .ok (.iadd, 1) := by decide +kernel
theorem dX0_add_62 : decode cX0_add 62 = .ok (.putfield 22, 3) := by decide +kernel
theorem dX0_add_65 : decode cX0_add 65 = .ok (.return_, 1) := by decide +kernel
set_option maxRecDepth 20000 in
theorem ggX0_contract_X0_empty : GoodIn wsX0_contract wsX0_empty := goodIn_r _ [6, 7, 8, 1, 9, 10, 11, 12, 13, 22, 23, 24, 25] (by decide +kernel) (by decide +kernel)
set_option maxRecDepth 20000 in
theorem gX0_contract_X0_empty : GoodIn wsX0_contract (wsV RX0 31 RX0 yX0_empty wsX0_empty) := goodIn_app (goodIn_of _ (by decide +kernel)) ggX0_contract_X0_empty
set_option maxRecDepth 20000 in
theorem ggX0_contract_X0_between : GoodIn wsX0_contract wsX0_between := goodIn_r _ [17, 7, 22, 23, 24, 25] (by decide +kernel) (by decide +kernel)
set_option maxRecDepth 20000 in
theorem gX0_contract_X0_between : GoodIn wsX0_contract (wsV RX0 35 RX0 yX0_between wsX0_between) := goodIn_app (goodIn_of _ (by decide +kernel)) ggX0_contract_X0_between
set_option maxRecDepth 20000 in
theorem ggX0_contract_X0_add : GoodIn wsX0_contract wsX0_add := goodIn_r _ [21, 7, 8, 9, 22, 23, 24, 25] (by decide +kernel) (by decide +kernel)
set_option maxRecDepth 20000 in
theorem gX0_contract_X0_add : GoodIn wsX0_contract (wsV RX0 39 RX0 yX0_add wsX0_add) := goodIn_app (goodIn_of _ (by decide +kernel)) ggX0_contract_X0_add
theorem dX0_contract_0 : decode cX0_contract 0 = .ok (.aload_n 0, 1) := by decide +kernel
theorem dX0_contract_1 : decode cX0_contract 1 = .ok (.iload_n 3, 1) := by decide +kernel
theorem dX0_contract_2 : decode cX0_contract 2 = .ok (.invokevirtual 31, 3) := by decide +kernel
theorem dX0_contract_5 : decode cX0_contract 5 = .ok (.iconst 0, 1) := by decide +kernel
theorem dX0_contract_6 : decode cX0_contract 6 = .ok (.istore 4, 2) := by decide +kernel
theorem dX0_contract_8 : decode cX0_contract 8 = .ok (.iload 4, 2) := by decide +kernel
theorem dX0_contract_10 : decode cX0_contract 10 = .ok (.aload_n 1, 1) := by decide +kernel
theorem dX0_contract_11 : decode cX0_contract 11 = .ok (.getfield 18, 3) := by decide +kernel
theorem dX0_contract_14 : decode cX0_contract 14 = .ok (.if_icmp .ge 57, 3) := by decide +kernel
theorem dX0_contract_17 : decode cX0_contract 17 = .ok (.iload 4, 2) := by decide +kernel
theorem dX0_contract_19 : decode cX0_contract 19 = .ok (.istore 5, 2) := by decide +kernel
theorem dX0_contract_21 : decode cX0_contract 21 = .ok (.iload 5, 2) := by decide +kernel
theorem dX0_contract_23 : decode cX0_contract 23 = .ok (.aload_n 1, 1) := by decide +kernel
theorem dX0_contract_24 : decode cX0_contract 24 = .ok (.getfield 18, 3) := by decide +kernel
theorem dX0_contract_27 : decode cX0_contract 27 = .ok (.if_icmp .ge 38, 3) := by decide +kernel
theorem dX0_contract_30 : decode cX0_contract 30 = .ok (.aload_n 1, 1) := by decide +kernel
theorem dX0_contract_31 : decode cX0_contract 31 = .ok (.iload 4, 2) := by decide +kernel
theorem dX0_contract_33 : decode cX0_contract 33 = .ok (.iload 5, 2) := by decide +kernel
theorem dX0_contract_35 : decode cX0_contract 35 = .ok (.invokevirtual 35, 3) := by decide +kernel
theorem dX0_contract_38 : decode cX0_contract 38 = .ok (.istore 6, 2) := by decide +kernel
theorem dX0_contract_40 : decode cX0_contract 40 = .ok (.iload 6, 2) := by decide +kernel
theorem dX0_contract_42 : decode cX0_contract 42 = .ok (.ifCond .eq 17, 3) := by decide +kernel
theorem dX0_contract_45 : decode cX0_contract 45 = .ok (.aload_n 0, 1) := by decide +kernel
theorem dX0_contract_46 : decode cX0_contract 46 = .ok (.aload_n 2, 1) := by decide +kernel
theorem dX0_contract_47 : decode cX0_contract 47 = .ok (.iload 4, 2) := by decide +kernel
theorem dX0_contract_49 : decode cX0_contract 49 = .ok (.iaload, 1) := by decide +kernel
theorem dX0_contract_50 : decode cX0_contract 50 = .ok (.aload_n 2, 1) := by decide +kernel
theorem dX0_contract_51 : decode cX0_contract 51 = .ok (.iload 5, 2) := by decide +kernel
theorem dX0_contract_53 : decode cX0_contract 53 = .ok (.iaload, 1) := by decide +kernel
theorem dX0_contract_54 : decode cX0_contract 54 = .ok (.iload 6, 2) := by decide +kernel
theorem dX0_contract_56 : decode cX0_contract 56 = .ok (.invokevirtual 39, 3) := by decide +kernel
theorem dX0_contract_59 : decode cX0_contract 59 = .ok (.iinc 5 1, 3) := by decide +kernel
theorem dX0_contract_62 : decode cX0_contract 62 = .ok (.goto (-41), 3) := by decide +kernel
theorem dX0_contract_65 : decode cX0_contract 65 = .ok (.iinc 4 1, 3) := by decide +kernel
theorem dX0_contract_68 : decode cX0_contract 68 = .ok (.goto (-60), 3) := by decide +kernel
theorem dX0_contract_71 : decode cX0_contract 71 = .ok (.return_, 1) := by decide +kernel
theorem dX1_init_0 : decode cX1_init 0 = .ok (.aload_n 0, 1) := by decide +kernel
theorem dX1_init_1 : decode cX1_init 1 = .ok (.invokespecial 3, 3) := by decide +kernel
theorem dX1_init_4 : decode cX1_init 4 = .ok (.aload_n 0, 1) := by decide +kernel
theorem dX1_init_5 : decode cX1_init 5 = .ok (.bipush 40, 2) := by decide +kernel
theorem dX1_init_7 : decode cX1_init 7 = .ok (.newarray .int, 2) := by decide +kernel
theorem dX1_init_9 : decode cX1_init 9 = .ok (.putfield 9, 3) := by decide +kernel
theorem dX1_init_12 : decode cX1_init 12 = .ok (.aload_n 0, 1) := by decide +kernel
theorem dX1_init_13 : decode cX1_init 13 = .ok (.bipush 40, 2) := by decide +kernel
theorem dX1_init_15 : decode cX1_init 15 = .ok (.newarray .int, 2) := by decide +kernel
theorem dX1_init_17 : decode cX1_init 17 = .ok (.putfield 15, 3) := by decide +kernel
theorem dX1_init_20 : decode cX1_init 20 = .ok (.aload_n 0, 1) := by decide +kernel
theorem dX1_init_21 : decode cX1_init 21 = .ok (.bipush 40, 2) := by decide +kernel
theorem dX1_init_23 : decode cX1_init 23 = .ok (.newarray .int, 2) := by decide +kernel
theorem dX1_init_25 : decode cX1_init 25 = .ok (.putfield 18, 3) := by decide +kernel
theorem dX1_init_28 : decode cX1_init 28 = .ok (.aload_n 0, 1) := by decide +kernel
theorem dX1_init_29 : decode cX1_init 29 = .ok (.bipush 40, 2) := by decide +kernel
theorem dX1_init_31 : decode cX1_init 31 = .ok (.newarray .int, 2) := by decide +kernel
theorem dX1_init_33 : decode cX1_init 33 = .ok (.putfield 21, 3) := by decide +kernel
theorem dX1_init_36 : decode cX1_init 36 = .ok (.aload_n 0, 1) := by decide +kernel
theorem dX1_init_37 : decode cX1_init 37 = .ok (.bipush 40, 2) := by decide +kernel
theorem dX1_init_39 : decode cX1_init 39 = .ok (.newarray .int, 2) := by decide +kernel
theorem dX1_init_41 : decode cX1_init 41 = .ok (.putfield 24, 3) := by decide +kernel
theorem dX1_init_44 : decode cX1_init 44 = .ok (.return_, 1) := by decide +kernel
theorem dX1_separate_0 : decode cX1_separate 0 = .ok (.iconst 0, 1) := by decide +kernel
theorem dX1_separate_1 : decode cX1_separate 1 = .ok (.istore_n 2, 1) := by decide +kernel
theorem dX1_separate_2 : decode cX1_separate 2 = .ok (.iload_n 2, 1) := by decide +kernel
theorem dX1_separate_3 : decode cX1_separate 3 = .ok (.iload_n 1, 1) := by decide +kernel
theorem dX1_separate_4 : decode cX1_separate 4 = .ok (.if_icmp .ge 16, 3) := by decide +kernel
theorem dX1_separate_7 : decode cX1_separate 7 = .ok (.aload_n 0, 1) := by decide +kernel
theorem dX1_separate_8 : decode cX1_separate 8 = .ok (.getfield 9, 3) := by decide +kernel
theorem dX1_separate_11 : decode cX1_separate 11 = .ok (.iload_n 2, 1) := by decide +kernel
theorem dX1_separate_12 : decode cX1_separate 12 = .ok (.iload_n 2, 1) := by decide +kernel
theorem dX1_separate_13 : decode cX1_separate 13 = .ok (.iastore, 1) := by decide +kernel
theorem dX1_separate_14 : decode cX1_separate 14 = .ok (.iinc 2 1, 3) := by decide +kernel
theorem dX1_separate_17 : decode cX1_separate 17 = .ok (.goto (-15), 3) := by decide +kernel
theorem dX1_separate_20 : decode cX1_separate 20 = .ok (.return_, 1) := by decide +kernel
set_option maxRecDepth 20000 in
theorem ggX1_tally_J7_fill_53178 : GoodIn wsX1_tally wsJ7_fill_53178 := goodIn_r _ [9] (by decide +kernel) (by decide +kernel)
set_option maxRecDepth 20000 in
theorem gX1_tally_J7_fill_53178 : GoodIn wsX1_tally (va_wsS RX1 27 yJ7_fill_53178 wsJ7_fill_53178) := goodIn_app (goodIn_of _ (by decide +kernel)) ggX1_tally_J7_fill_53178
theorem dX1_tally_0 : decode cX1_tally 0 = .ok (.aload_n 0, 1) := by decide +kernel
theorem dX1_tally_1 : decode cX1_tally 1 = .ok (.getfield 15, 3) := by decide +kernel
theorem dX1_tally_4 : decode cX1_tally 4 = .ok (.iconst 0, 1) := by decide +kernel
theorem dX1_tally_5 : decode cX1_tally 5 = .ok (.invokestatic 27, 3) := by decide +kernel
theorem dX1_tally_8 : decode cX1_tally 8 = .ok (.aload_n 0, 1) := by decide +kernel
theorem dX1_tally_9 : decode cX1_tally 9 = .ok (.getfield 18, 3) := by decide +kernel
theorem dX1_tally_12 : decode cX1_tally 12 = .ok (.iconst 0, 1) := by decide +kernel
theorem dX1_tally_13 : decode cX1_tally 13 = .ok (.invokestatic 27, 3) := by decide +kernel
theorem dX1_tally_16 : decode cX1_tally 16 = .ok (.iconst 0, 1) := by decide +kernel
theorem dX1_tally_17 : decode cX1_tally 17 = .ok (.istore_n 2, 1) := by decide +kernel
theorem dX1_tally_18 : decode cX1_tally 18 = .ok (.iload_n 2, 1) := by decide +kernel
theorem dX1_tally_19 : decode cX1_tally 19 = .ok (.aload_n 1, 1) := by decide +kernel
theorem dX1_tally_20 : decode cX1_tally 20 = .ok (.getfield 33, 3) := by decide +kernel
theorem dX1_tally_23 : decode cX1_tally 23 = .ok (.if_icmp .ge 44, 3) := by decide +kernel
theorem dX1_tally_26 : decode cX1_tally 26 = .ok (.aload_n 0, 1) := by decide +kernel
theorem dX1_tally_27 : decode cX1_tally 27 = .ok (.getfield 15, 3) := by decide +kernel
theorem dX1_tally_30 : decode cX1_tally 30 = .ok (.aload_n 0, 1) := by decide +kernel
theorem dX1_tally_31 : decode cX1_tally 31 = .ok (.getfield 9, 3) := by decide +kernel
theorem dX1_tally_34 : decode cX1_tally 34 = .ok (.iload_n 2, 1) := by decide +kernel
theorem dX1_tally_35 : decode cX1_tally 35 = .ok (.iaload, 1) := by decide +kernel
theorem dX1_tally_36 : decode cX1_tally 36 = .ok (.dup2, 1) := by decide +kernel
theorem dX1_tally_37 : decode cX1_tally 37 = .ok (.iaload, 1) := by decide +kernel
theorem dX1_tally_38 : decode cX1_tally 38 = .ok (.iconst 1, 1) := by decide +kernel
theorem dX1_tally_39 : decode cX1_tally 39 = .ok (.iadd, 1) := by decide +kernel
theorem dX1_tally_40 : decode cX1_tally 40 = .ok (.iastore, 1) := by decide +kernel
theorem dX1_tally_41 : decode cX1_tally 41 = .ok (.aload_n 0, 1) := by decide +kernel
theorem dX1_tally_42 : decode cX1_tally 42 = .ok (.getfield 18, 3) := by decide +kernel
theorem dX1_tally_45 : decode cX1_tally 45 = .ok (.aload_n 0, 1) := by decide +kernel
theorem dX1_tally_46 : decode cX1_tally 46 = .ok (.getfield 9, 3) := by decide +kernel
theorem dX1_tally_49 : decode cX1_tally 49 = .ok (.iload_n 2, 1) := by decide +kernel
theorem dX1_tally_50 : decode cX1_tally 50 = .ok (.iaload, 1) := by decide +kernel
theorem dX1_tally_51 : decode cX1_tally 51 = .ok (.dup2, 1) := by decide +kernel
theorem dX1_tally_52 : decode cX1_tally 52 = .ok (.iaload, 1) := by decide +kernel
theorem dX1_tally_53 : decode cX1_tally 53 = .ok (.aload_n 1, 1) := by decide +kernel
theorem dX1_tally_54 : decode cX1_tally 54 = .ok (.getfield 39, 3) := by decide +kernel
theorem dX1_tally_57 : decode cX1_tally 57 = .ok (.iload_n 2, 1) := by decide +kernel
theorem dX1_tally_58 : decode cX1_tally 58 = .ok (.iaload, 1) := by decide +kernel
theorem dX1_tally_59 : decode cX1_tally 59 = .ok (.iadd, 1) := by decide +kernel
theorem dX1_tally_60 : decode cX1_tally 60 = .ok (.iastore, 1) := by decide +kernel
theorem dX1_tally_61 : decode cX1_tally 61 = .ok (.iinc 2 1, 3) := by decide +kernel
theorem dX1_tally_64 : decode cX1_tally 64 = .ok (.goto (-46), 3) := by decide +kernel
theorem dX1_tally_67 : decode cX1_tally 67 = .ok (.return_, 1) := by decide +kernel
set_option maxRecDepth 20000 in
theorem ggX1_tie_J7_fill_53178 : GoodIn wsX1_tie wsJ7_fill_53178 := goodIn_r _ [7] (by decide +kernel) (by decide +kernel)
set_option maxRecDepth 20000 in
theorem gX1_tie_J7_fill_53178 : GoodIn wsX1_tie (va_wsS RX1 27 yJ7_fill_53178 wsJ7_fill_53178) := goodIn_app (goodIn_of _ (by decide +kernel)) ggX1_tie_J7_fill_53178
set_option maxRecDepth 20000 in
theorem ggX1_tie_X0_between : GoodIn wsX1_tie wsX0_between := goodIn_r _ [12, 13, 19, 20, 21, 22] (by decide +kernel) (by decide +kernel)
set_option maxRecDepth 20000 in
theorem gX1_tie_X0_between : GoodIn wsX1_tie (wsV RX1 40 RX0 yX0_between wsX0_between) := goodIn_app (goodIn_of _ (by decide +kernel)) ggX1_tie_X0_between
theorem dX1_tie_0 : decode cX1_tie 0 = .ok (.aload_n 0, 1) := by decide +kernel
theorem dX1_tie_1 : decode cX1_tie 1 = .ok (.getfield 21, 3) := by decide +kernel
theorem dX1_tie_4 : decode cX1_tie 4 = .ok (.iconst 0, 1) := by decide +kernel
theorem dX1_tie_5 : decode cX1_tie 5 = .ok (.invokestatic 27, 3) := by decide +kernel
theorem dX1_tie_8 : decode cX1_tie 8 = .ok (.iconst 0, 1) := by decide +kernel
theorem dX1_tie_9 : decode cX1_tie 9 = .ok (.istore_n 3, 1) := by decide +kernel
theorem dX1_tie_10 : decode cX1_tie 10 = .ok (.iload_n 3, 1) := by decide +kernel
theorem dX1_tie_11 : decode cX1_tie 11 = .ok (.aload_n 1, 1) := by decide +kernel
theorem dX1_tie_12 : decode cX1_tie 12 = .ok (.getfield 33, 3) := by decide +kernel
theorem dX1_tie_15 : decode cX1_tie 15 = .ok (.if_icmp .ge 34, 3) := by decide +kernel
theorem dX1_tie_18 : decode cX1_tie 18 = .ok (.iload_n 3, 1) := by decide +kernel
theorem dX1_tie_19 : decode cX1_tie 19 = .ok (.iload_n 2, 1) := by decide +kernel
theorem dX1_tie_20 : decode cX1_tie 20 = .ok (.if_icmp .eq 23, 3) := by decide +kernel
theorem dX1_tie_23 : decode cX1_tie 23 = .ok (.aload_n 0, 1) := by decide +kernel
theorem dX1_tie_24 : decode cX1_tie 24 = .ok (.getfield 21, 3) := by decide +kernel
theorem dX1_tie_27 : decode cX1_tie 27 = .ok (.aload_n 0, 1) := by decide +kernel
theorem dX1_tie_28 : decode cX1_tie 28 = .ok (.getfield 9, 3) := by decide +kernel
theorem dX1_tie_31 : decode cX1_tie 31 = .ok (.iload_n 3, 1) := by decide +kernel
theorem dX1_tie_32 : decode cX1_tie 32 = .ok (.iaload, 1) := by decide +kernel
theorem dX1_tie_33 : decode cX1_tie 33 = .ok (.dup2, 1) := by decide +kernel
theorem dX1_tie_34 : decode cX1_tie 34 = .ok (.iaload, 1) := by decide +kernel
theorem dX1_tie_35 : decode cX1_tie 35 = .ok (.aload_n 1, 1) := by decide +kernel
theorem dX1_tie_36 : decode cX1_tie 36 = .ok (.iload_n 2, 1) := by decide +kernel
theorem dX1_tie_37 : decode cX1_tie 37 = .ok (.iload_n 3, 1) := by decide +kernel
theorem dX1_tie_38 : decode cX1_tie 38 = .ok (.invokevirtual 40, 3) := by decide +kernel
theorem dX1_tie_41 : decode cX1_tie 41 = .ok (.iadd, 1) := by decide +kernel
theorem dX1_tie_42 : decode cX1_tie 42 = .ok (.iastore, 1) := by decide +kernel
theorem dX1_tie_43 : decode cX1_tie 43 = .ok (.iinc 3 1, 3) := by decide +kernel
theorem dX1_tie_46 : decode cX1_tie 46 = .ok (.goto (-36), 3) := by decide +kernel
theorem dX1_tie_49 : decode cX1_tie 49 = .ok (.return_, 1) := by decide +kernel
set_option maxRecDepth 20000 in
theorem ggX1_score_X0_between : GoodIn wsX1_score wsX0_between := goodIn_r _ [10, 11, 12, 13, 14, 15] (by decide +kernel) (by decide +kernel)
set_option maxRecDepth 20000 in
theorem gX1_score_X0_between : GoodIn wsX1_score (wsV RX1 40 RX0 yX0_between wsX0_between) := goodIn_app (goodIn_of _ (by decide +kernel)) ggX1_score_X0_between
theorem dX1_score_0 : decode cX1_score 0 = .ok (.lconst 0, 1) := by decide +kernel
theorem dX1_score_1 : decode cX1_score 1 = .ok (.lstore_n 2, 1) := by decide +kernel
theorem dX1_score_2 : decode cX1_score 2 = .ok (.iconst 0, 1) := by decide +kernel
theorem dX1_score_3 : decode cX1_score 3 = .ok (.istore 4, 2) := by decide +kernel
theorem dX1_score_5 : decode cX1_score 5 = .ok (.iload 4, 2) := by decide +kernel
theorem dX1_score_7 : decode cX1_score 7 = .ok (.aload_n 1, 1) := by decide +kernel
theorem dX1_score_8 : decode cX1_score 8 = .ok (.getfield 33, 3) := by decide +kernel
theorem dX1_score_11 : decode cX1_score 11 = .ok (.if_icmp .ge 57, 3) := by decide +kernel
theorem dX1_score_14 : decode cX1_score 14 = .ok (.iload 4, 2) := by decide +kernel
theorem dX1_score_16 : decode cX1_score 16 = .ok (.istore 5, 2) := by decide +kernel
theorem dX1_score_18 : decode cX1_score 18 = .ok (.iload 5, 2) := by decide +kernel
theorem dX1_score_20 : decode cX1_score 20 = .ok (.aload_n 1, 1) := by decide +kernel
theorem dX1_score_21 : decode cX1_score 21 = .ok (.getfield 33, 3) := by decide +kernel
theorem dX1_score_24 : decode cX1_score 24 = .ok (.if_icmp .ge 38, 3) := by decide +kernel
theorem dX1_score_27 : decode cX1_score 27 = .ok (.aload_n 0, 1) := by decide +kernel
theorem dX1_score_28 : decode cX1_score 28 = .ok (.getfield 9, 3) := by decide +kernel
theorem dX1_score_31 : decode cX1_score 31 = .ok (.iload 4, 2) := by decide +kernel
theorem dX1_score_33 : decode cX1_score 33 = .ok (.iaload, 1) := by decide +kernel
theorem dX1_score_34 : decode cX1_score 34 = .ok (.aload_n 0, 1) := by decide +kernel
theorem dX1_score_35 : decode cX1_score 35 = .ok (.getfield 9, 3) := by decide +kernel
theorem dX1_score_38 : decode cX1_score 38 = .ok (.iload 5, 2) := by decide +kernel
theorem dX1_score_40 : decode cX1_score 40 = .ok (.iaload, 1) := by decide +kernel
theorem dX1_score_41 : decode cX1_score 41 = .ok (.if_icmp .ne 15, 3) := by decide +kernel
theorem dX1_score_44 : decode cX1_score 44 = .ok (.lload_n 2, 1) := by decide +kernel
theorem dX1_score_45 : decode cX1_score 45 = .ok (.aload_n 1, 1) := by decide +kernel
theorem dX1_score_46 : decode cX1_score 46 = .ok (.iload 4, 2) := by decide +kernel
theorem dX1_score_48 : decode cX1_score 48 = .ok (.iload 5, 2) := by decide +kernel
theorem dX1_score_50 : decode cX1_score 50 = .ok (.invokevirtual 40, 3) := by decide +kernel
theorem dX1_score_53 : decode cX1_score 53 = .ok (.i2l, 1) := by decide +kernel
theorem dX1_score_54 : decode cX1_score 54 = .ok (.ladd, 1) := by decide +kernel
theorem dX1_score_55 : decode cX1_score 55 = .ok (.lstore_n 2, 1) := by decide +kernel
theorem dX1_score_56 : decode cX1_score 56 = .ok (.iinc 5 1, 3) := by decide +kernel
theorem dX1_score_59 : decode cX1_score 59 = .ok (.goto (-41), 3) := by decide +kernel
theorem dX1_score_62 : decode cX1_score 62 = .ok (.iinc 4 1, 3) := by decide +kernel
theorem dX1_score_65 : decode cX1_score 65 = .ok (.goto (-60), 3) := by decide +kernel
theorem dX1_score_68 : decode cX1_score 68 = .ok (.ldc2_w 44, 3) := by decide +kernel
theorem dX1_score_71 : decode cX1_score 71 = .ok (.aload_n 1, 1) := by decide +kernel
theorem dX1_score_72 : decode cX1_score 72 = .ok (.getfield 46, 3) := by decide +kernel
theorem dX1_score_75 : decode cX1_score 75 = .ok (.i2l, 1) := by decide +kernel
theorem dX1_score_76 : decode cX1_score 76 = .ok (.lmul, 1) := by decide +kernel
theorem dX1_score_77 : decode cX1_score 77 = .ok (.lload_n 2, 1) := by decide +kernel
theorem dX1_score_78 : decode cX1_score 78 = .ok (.lmul, 1) := by decide +kernel
theorem dX1_score_79 : decode cX1_score 79 = .ok (.lstore 4, 2) := by decide +kernel
theorem dX1_score_81 : decode cX1_score 81 = .ok (.iconst 0, 1) := by decide +kernel
theorem dX1_score_82 : decode cX1_score 82 = .ok (.istore 6, 2) := by decide +kernel
theorem dX1_score_84 : decode cX1_score 84 = .ok (.iload 6, 2) := by decide +kernel
theorem dX1_score_86 : decode cX1_score 86 = .ok (.aload_n 1, 1) := by decide +kernel
theorem dX1_score_87 : decode cX1_score 87 = .ok (.getfield 33, 3) := by decide +kernel
theorem dX1_score_90 : decode cX1_score 90 = .ok (.if_icmp .ge 31, 3) := by decide +kernel
theorem dX1_score_93 : decode cX1_score 93 = .ok (.lload 4, 2) := by decide +kernel
theorem dX1_score_95 : decode cX1_score 95 = .ok (.aload_n 0, 1) := by decide +kernel
theorem dX1_score_96 : decode cX1_score 96 = .ok (.getfield 18, 3) := by decide +kernel
theorem dX1_score_99 : decode cX1_score 99 = .ok (.iload 6, 2) := by decide +kernel
theorem dX1_score_101 : decode cX1_score 101 = .ok (.iaload, 1) := by decide +kernel
theorem dX1_score_102 : decode cX1_score 102 = .ok (.i2l, 1) := by decide +kernel
theorem dX1_score_103 : decode cX1_score 103 = .ok (.aload_n 0, 1) := by decide +kernel
theorem dX1_score_104 : decode cX1_score 104 = .ok (.getfield 18, 3) := by decide +kernel
theorem dX1_score_107 : decode cX1_score 107 = .ok (.iload 6, 2) := by decide +kernel
theorem dX1_score_109 : decode cX1_score 109 = .ok (.iaload, 1) := by decide +kernel
theorem dX1_score_110 : decode cX1_score 110 = .ok (.i2l, 1) := by decide +kernel
theorem dX1_score_111 : decode cX1_score 111 = .ok (.lmul, 1) := by decide +kernel
theorem dX1_score_112 : decode cX1_score 112 = .ok (.lsub, 1) := by decide +kernel
theorem dX1_score_113 : decode cX1_score 113 = .ok (.lstore 4, 2) := by decide +kernel
theorem dX1_score_115 : decode cX1_score 115 = .ok (.iinc 6 1, 3) := by decide +kernel
theorem dX1_score_118 : decode cX1_score 118 = .ok (.goto (-34), 3) := by decide +kernel
theorem dX1_score_121 : decode cX1_score 121 = .ok (.lload 4, 2) := by decide +kernel
theorem dX1_score_123 : decode cX1_score 123 = .ok (.lreturn, 1) := by decide +kernel
theorem dX1_gainInto_0 : decode cX1_gainInto 0 = .ok (.aload_n 0, 1) := by decide +kernel
theorem dX1_gainInto_1 : decode cX1_gainInto 1 = .ok (.getfield 9, 3) := by decide +kernel
theorem dX1_gainInto_4 : decode cX1_gainInto 4 = .ok (.iload_n 2, 1) := by decide +kernel
theorem dX1_gainInto_5 : decode cX1_gainInto 5 = .ok (.iaload, 1) := by decide +kernel
theorem dX1_gainInto_6 : decode cX1_gainInto 6 = .ok (.istore 4, 2) := by decide +kernel
theorem dX1_gainInto_8 : decode cX1_gainInto 8 = .ok (.iload_n 3, 1) := by decide +kernel
theorem dX1_gainInto_9 : decode cX1_gainInto 9 = .ok (.iload 4, 2) := by decide +kernel
theorem dX1_gainInto_11 : decode cX1_gainInto 11 = .ok (.if_icmp .ne 5, 3) := by decide +kernel
theorem dX1_gainInto_14 : decode cX1_gainInto 14 = .ok (.lconst 0, 1) := by decide +kernel
theorem dX1_gainInto_15 : decode cX1_gainInto 15 = .ok (.lreturn, 1) := by decide +kernel
theorem dX1_gainInto_16 : decode cX1_gainInto 16 = .ok (.aload_n 1, 1) := by decide +kernel
theorem dX1_gainInto_17 : decode cX1_gainInto 17 = .ok (.getfield 39, 3) := by decide +kernel
theorem dX1_gainInto_20 : decode cX1_gainInto 20 = .ok (.iload_n 2, 1) := by decide +kernel
theorem dX1_gainInto_21 : decode cX1_gainInto 21 = .ok (.iaload, 1) := by decide +kernel
theorem dX1_gainInto_22 : decode cX1_gainInto 22 = .ok (.i2l, 1) := by decide +kernel
theorem dX1_gainInto_23 : decode cX1_gainInto 23 = .ok (.lstore 5, 2) := by decide +kernel
theorem dX1_gainInto_25 : decode cX1_gainInto 25 = .ok (.aload_n 0, 1) := by decide +kernel
theorem dX1_gainInto_26 : decode cX1_gainInto 26 = .ok (.getfield 18, 3) := by decide +kernel
theorem dX1_gainInto_29 : decode cX1_gainInto 29 = .ok (.iload 4, 2) := by decide +kernel
theorem dX1_gainInto_31 : decode cX1_gainInto 31 = .ok (.iaload, 1) := by decide +kernel
theorem dX1_gainInto_32 : decode cX1_gainInto 32 = .ok (.i2l, 1) := by decide +kernel
theorem dX1_gainInto_33 : decode cX1_gainInto 33 = .ok (.lload 5, 2) := by decide +kernel
theorem dX1_gainInto_35 : decode cX1_gainInto 35 = .ok (.lsub, 1) := by decide +kernel
theorem dX1_gainInto_36 : decode cX1_gainInto 36 = .ok (.lstore 7, 2) := by decide +kernel
theorem dX1_gainInto_38 : decode cX1_gainInto 38 = .ok (.aload_n 0, 1) := by decide +kernel
theorem dX1_gainInto_39 : decode cX1_gainInto 39 = .ok (.getfield 21, 3) := by decide +kernel
theorem dX1_gainInto_42 : decode cX1_gainInto 42 = .ok (.iload_n 3, 1) := by decide +kernel
theorem dX1_gainInto_43 : decode cX1_gainInto 43 = .ok (.iaload, 1) := by decide +kernel
theorem dX1_gainInto_44 : decode cX1_gainInto 44 = .ok (.aload_n 0, 1) := by decide +kernel
theorem dX1_gainInto_45 : decode cX1_gainInto 45 = .ok (.getfield 21, 3) := by decide +kernel
theorem dX1_gainInto_48 : decode cX1_gainInto 48 = .ok (.iload 4, 2) := by decide +kernel
theorem dX1_gainInto_50 : decode cX1_gainInto 50 = .ok (.iaload, 1) := by decide +kernel
theorem dX1_gainInto_51 : decode cX1_gainInto 51 = .ok (.isub, 1) := by decide +kernel
theorem dX1_gainInto_52 : decode cX1_gainInto 52 = .ok (.i2l, 1) := by decide +kernel
theorem dX1_gainInto_53 : decode cX1_gainInto 53 = .ok (.lstore 9, 2) := by decide +kernel
theorem dX1_gainInto_55 : decode cX1_gainInto 55 = .ok (.ldc2_w 44, 3) := by decide +kernel
theorem dX1_gainInto_58 : decode cX1_gainInto 58 = .ok (.aload_n 1, 1) := by decide +kernel
theorem dX1_gainInto_59 : decode cX1_gainInto 59 = .ok (.getfield 46, 3) := by decide +kernel
theorem dX1_gainInto_62 : decode cX1_gainInto 62 = .ok (.i2l, 1) := by decide +kernel
theorem dX1_gainInto_63 : decode cX1_gainInto 63 = .ok (.lmul, 1) := by decide +kernel
theorem dX1_gainInto_64 : decode cX1_gainInto 64 = .ok (.lload 9, 2) := by decide +kernel
theorem dX1_gainInto_66 : decode cX1_gainInto 66 = .ok (.lmul, 1) := by decide +kernel
theorem dX1_gainInto_67 : decode cX1_gainInto 67 = .ok (.ldc2_w 49, 3) := by decide +kernel
theorem dX1_gainInto_70 : decode cX1_gainInto 70 = .ok (.lload 5, 2) := by decide +kernel
theorem dX1_gainInto_72 : decode cX1_gainInto 72 = .ok (.lmul, 1) := by decide +kernel
theorem dX1_gainInto_73 : decode cX1_gainInto 73 = .ok (.aload_n 0, 1) := by decide +kernel
theorem dX1_gainInto_74 : decode cX1_gainInto 74 = .ok (.getfield 18, 3) := by decide +kernel
theorem dX1_gainInto_77 : decode cX1_gainInto 77 = .ok (.iload_n 3, 1) := by decide +kernel
theorem dX1_gainInto_78 : decode cX1_gainInto 78 = .ok (.iaload, 1) := by decide +kernel
theorem dX1_gainInto_79 : decode cX1_gainInto 79 = .ok (.i2l, 1) := by decide +kernel
theorem dX1_gainInto_80 : decode cX1_gainInto 80 = .ok (.lload 7, 2) := by decide +kernel
theorem dX1_gainInto_82 : decode cX1_gainInto 82 = .ok (.lsub, 1) := by decide +kernel
theorem dX1_gainInto_83 : decode cX1_gainInto 83 = .ok (.lmul, 1) := by decide +kernel
theorem dX1_gainInto_84 : decode cX1_gainInto 84 = .ok (.lsub, 1) := by decide +kernel
theorem dX1_gainInto_85 : decode cX1_gainInto 85 = .ok (.lreturn, 1) := by decide +kernel
set_option maxRecDepth 20000 in
theorem ggX1_choose_X1_gainInto : GoodIn wsX1_choose wsX1_gainInto := goodIn_r _ [9, 1, 10, 11, 3, 12, 13, 14, 19, 20, 21, 22, 23, 24, 25, 26, 27] (by decide +kernel) (by decide +kernel)
set_option maxRecDepth 20000 in
theorem gX1_choose_X1_gainInto : GoodIn wsX1_choose (wsV RX1 51 RX1 yX1_gainInto wsX1_gainInto) := goodIn_app (goodIn_of _ (by decide +kernel)) ggX1_choose_X1_gainInto
set_option maxRecDepth 20000 in
theorem ggX1_choose_X1_leastFree : GoodIn wsX1_choose wsX1_leastFree := goodIn_r _ [18, 4, 19, 20, 21, 22, 23] (by decide +kernel) (by decide +kernel)
set_option maxRecDepth 20000 in
theorem gX1_choose_X1_leastFree : GoodIn wsX1_choose (wsV RX1 55 RX1 yX1_leastFree wsX1_leastFree) := goodIn_app (goodIn_of _ (by decide +kernel)) ggX1_choose_X1_leastFree
