theorem dX1_choose_0 : decode cX1_choose 0 = .ok (.aload_n 0, 1) := by decide +kernel
theorem dX1_choose_1 : decode cX1_choose 1 = .ok (.getfield 9, 3) := by decide +kernel
theorem dX1_choose_4 : decode cX1_choose 4 = .ok (.iload_n 2, 1) := by decide +kernel
theorem dX1_choose_5 : decode cX1_choose 5 = .ok (.iaload, 1) := by decide +kernel
theorem dX1_choose_6 : decode cX1_choose 6 = .ok (.istore_n 3, 1) := by decide +kernel
theorem dX1_choose_7 : decode cX1_choose 7 = .ok (.iconst (-1), 1) := by decide +kernel
theorem dX1_choose_8 : decode cX1_choose 8 = .ok (.istore 4, 2) := by decide +kernel
theorem dX1_choose_10 : decode cX1_choose 10 = .ok (.lconst 0, 1) := by decide +kernel
theorem dX1_choose_11 : decode cX1_choose 11 = .ok (.lstore 5, 2) := by decide +kernel
theorem dX1_choose_13 : decode cX1_choose 13 = .ok (.iconst 0, 1) := by decide +kernel
theorem dX1_choose_14 : decode cX1_choose 14 = .ok (.istore 7, 2) := by decide +kernel
theorem dX1_choose_16 : decode cX1_choose 16 = .ok (.iload 7, 2) := by decide +kernel
theorem dX1_choose_18 : decode cX1_choose 18 = .ok (.aload_n 1, 1) := by decide +kernel
theorem dX1_choose_19 : decode cX1_choose 19 = .ok (.getfield 33, 3) := by decide +kernel
theorem dX1_choose_22 : decode cX1_choose 22 = .ok (.if_icmp .ge 55, 3) := by decide +kernel
theorem dX1_choose_25 : decode cX1_choose 25 = .ok (.iload 7, 2) := by decide +kernel
theorem dX1_choose_27 : decode cX1_choose 27 = .ok (.iload_n 3, 1) := by decide +kernel
theorem dX1_choose_28 : decode cX1_choose 28 = .ok (.if_icmp .eq 24, 3) := by decide +kernel
theorem dX1_choose_31 : decode cX1_choose 31 = .ok (.aload_n 0, 1) := by decide +kernel
theorem dX1_choose_32 : decode cX1_choose 32 = .ok (.getfield 21, 3) := by decide +kernel
theorem dX1_choose_35 : decode cX1_choose 35 = .ok (.iload 7, 2) := by decide +kernel
theorem dX1_choose_37 : decode cX1_choose 37 = .ok (.iaload, 1) := by decide +kernel
theorem dX1_choose_38 : decode cX1_choose 38 = .ok (.ifCond .le 14, 3) := by decide +kernel
theorem dX1_choose_41 : decode cX1_choose 41 = .ok (.aload_n 0, 1) := by decide +kernel
theorem dX1_choose_42 : decode cX1_choose 42 = .ok (.aload_n 1, 1) := by decide +kernel
theorem dX1_choose_43 : decode cX1_choose 43 = .ok (.iload_n 2, 1) := by decide +kernel
theorem dX1_choose_44 : decode cX1_choose 44 = .ok (.iload 7, 2) := by decide +kernel
theorem dX1_choose_46 : decode cX1_choose 46 = .ok (.invokevirtual 51, 3) := by decide +kernel
theorem dX1_choose_49 : decode cX1_choose 49 = .ok (.goto 4, 3) := by decide +kernel
theorem dX1_choose_52 : decode cX1_choose 52 = .ok (.lconst 0, 1) := by decide +kernel
theorem dX1_choose_53 : decode cX1_choose 53 = .ok (.lstore 8, 2) := by decide +kernel
theorem dX1_choose_55 : decode cX1_choose 55 = .ok (.lload 8, 2) := by decide +kernel
theorem dX1_choose_57 : decode cX1_choose 57 = .ok (.lload 5, 2) := by decide +kernel
theorem dX1_choose_59 : decode cX1_choose 59 = .ok (.lcmp, 1) := by decide +kernel
theorem dX1_choose_60 : decode cX1_choose 60 = .ok (.ifCond .le 11, 3) := by decide +kernel
theorem dX1_choose_63 : decode cX1_choose 63 = .ok (.iload 7, 2) := by decide +kernel
theorem dX1_choose_65 : decode cX1_choose 65 = .ok (.istore 4, 2) := by decide +kernel
theorem dX1_choose_67 : decode cX1_choose 67 = .ok (.lload 8, 2) := by decide +kernel
theorem dX1_choose_69 : decode cX1_choose 69 = .ok (.lstore 5, 2) := by decide +kernel
theorem dX1_choose_71 : decode cX1_choose 71 = .ok (.iinc 7 1, 3) := by decide +kernel
theorem dX1_choose_74 : decode cX1_choose 74 = .ok (.goto (-58), 3) := by decide +kernel
theorem dX1_choose_77 : decode cX1_choose 77 = .ok (.aload_n 0, 1) := by decide +kernel
theorem dX1_choose_78 : decode cX1_choose 78 = .ok (.getfield 15, 3) := by decide +kernel
theorem dX1_choose_81 : decode cX1_choose 81 = .ok (.iload_n 3, 1) := by decide +kernel
theorem dX1_choose_82 : decode cX1_choose 82 = .ok (.iaload, 1) := by decide +kernel
theorem dX1_choose_83 : decode cX1_choose 83 = .ok (.iconst 1, 1) := by decide +kernel
theorem dX1_choose_84 : decode cX1_choose 84 = .ok (.if_icmp .le 14, 3) := by decide +kernel
theorem dX1_choose_87 : decode cX1_choose 87 = .ok (.aload_n 0, 1) := by decide +kernel
theorem dX1_choose_88 : decode cX1_choose 88 = .ok (.aload_n 1, 1) := by decide +kernel
theorem dX1_choose_89 : decode cX1_choose 89 = .ok (.getfield 33, 3) := by decide +kernel
theorem dX1_choose_92 : decode cX1_choose 92 = .ok (.invokevirtual 55, 3) := by decide +kernel
theorem dX1_choose_95 : decode cX1_choose 95 = .ok (.goto 4, 3) := by decide +kernel
theorem dX1_choose_98 : decode cX1_choose 98 = .ok (.iconst (-1), 1) := by decide +kernel
theorem dX1_choose_99 : decode cX1_choose 99 = .ok (.istore 7, 2) := by decide +kernel
theorem dX1_choose_101 : decode cX1_choose 101 = .ok (.iload 7, 2) := by decide +kernel
theorem dX1_choose_103 : decode cX1_choose 103 = .ok (.iconst (-1), 1) := by decide +kernel
theorem dX1_choose_104 : decode cX1_choose 104 = .ok (.if_icmp .eq 21, 3) := by decide +kernel
theorem dX1_choose_107 : decode cX1_choose 107 = .ok (.aload_n 0, 1) := by decide +kernel
theorem dX1_choose_108 : decode cX1_choose 108 = .ok (.aload_n 1, 1) := by decide +kernel
theorem dX1_choose_109 : decode cX1_choose 109 = .ok (.iload_n 2, 1) := by decide +kernel
theorem dX1_choose_110 : decode cX1_choose 110 = .ok (.iload 7, 2) := by decide +kernel
theorem dX1_choose_112 : decode cX1_choose 112 = .ok (.invokevirtual 51, 3) := by decide +kernel
theorem dX1_choose_115 : decode cX1_choose 115 = .ok (.lload 5, 2) := by decide +kernel
theorem dX1_choose_117 : decode cX1_choose 117 = .ok (.lcmp, 1) := by decide +kernel
theorem dX1_choose_118 : decode cX1_choose 118 = .ok (.ifCond .le 7, 3) := by decide +kernel
theorem dX1_choose_121 : decode cX1_choose 121 = .ok (.iload 7, 2) := by decide +kernel
theorem dX1_choose_123 : decode cX1_choose 123 = .ok (.istore 4, 2) := by decide +kernel
theorem dX1_choose_125 : decode cX1_choose 125 = .ok (.iload 4, 2) := by decide +kernel
theorem dX1_choose_127 : decode cX1_choose 127 = .ok (.ireturn, 1) := by decide +kernel
theorem dX1_leastFree_0 : decode cX1_leastFree 0 = .ok (.iconst 0, 1) := by decide +kernel
theorem dX1_leastFree_1 : decode cX1_leastFree 1 = .ok (.istore_n 2, 1) := by decide +kernel
theorem dX1_leastFree_2 : decode cX1_leastFree 2 = .ok (.iload_n 2, 1) := by decide +kernel
theorem dX1_leastFree_3 : decode cX1_leastFree 3 = .ok (.iload_n 1, 1) := by decide +kernel
theorem dX1_leastFree_4 : decode cX1_leastFree 4 = .ok (.if_icmp .ge 20, 3) := by decide +kernel
theorem dX1_leastFree_7 : decode cX1_leastFree 7 = .ok (.aload_n 0, 1) := by decide +kernel
theorem dX1_leastFree_8 : decode cX1_leastFree 8 = .ok (.getfield 15, 3) := by decide +kernel
theorem dX1_leastFree_11 : decode cX1_leastFree 11 = .ok (.iload_n 2, 1) := by decide +kernel
theorem dX1_leastFree_12 : decode cX1_leastFree 12 = .ok (.iaload, 1) := by decide +kernel
theorem dX1_leastFree_13 : decode cX1_leastFree 13 = .ok (.ifCond .ne 5, 3) := by decide +kernel
theorem dX1_leastFree_16 : decode cX1_leastFree 16 = .ok (.iload_n 2, 1) := by decide +kernel
theorem dX1_leastFree_17 : decode cX1_leastFree 17 = .ok (.ireturn, 1) := by decide +kernel
theorem dX1_leastFree_18 : decode cX1_leastFree 18 = .ok (.iinc 2 1, 3) := by decide +kernel
theorem dX1_leastFree_21 : decode cX1_leastFree 21 = .ok (.goto (-19), 3) := by decide +kernel
theorem dX1_leastFree_24 : decode cX1_leastFree 24 = .ok (.iconst (-1), 1) := by decide +kernel
theorem dX1_leastFree_25 : decode cX1_leastFree 25 = .ok (.ireturn, 1) := by decide +kernel
theorem dX1_shift_0 : decode cX1_shift 0 = .ok (.aload_n 0, 1) := by decide +kernel
theorem dX1_shift_1 : decode cX1_shift 1 = .ok (.getfield 9, 3) := by decide +kernel
theorem dX1_shift_4 : decode cX1_shift 4 = .ok (.iload_n 2, 1) := by decide +kernel
theorem dX1_shift_5 : decode cX1_shift 5 = .ok (.iaload, 1) := by decide +kernel
theorem dX1_shift_6 : decode cX1_shift 6 = .ok (.istore 4, 2) := by decide +kernel
theorem dX1_shift_8 : decode cX1_shift 8 = .ok (.aload_n 0, 1) := by decide +kernel
theorem dX1_shift_9 : decode cX1_shift 9 = .ok (.getfield 15, 3) := by decide +kernel
theorem dX1_shift_12 : decode cX1_shift 12 = .ok (.iload 4, 2) := by decide +kernel
theorem dX1_shift_14 : decode cX1_shift 14 = .ok (.dup2, 1) := by decide +kernel
theorem dX1_shift_15 : decode cX1_shift 15 = .ok (.iaload, 1) := by decide +kernel
theorem dX1_shift_16 : decode cX1_shift 16 = .ok (.iconst 1, 1) := by decide +kernel
theorem dX1_shift_17 : decode cX1_shift 17 = .ok (.isub, 1) := by decide +kernel
theorem dX1_shift_18 : decode cX1_shift 18 = .ok (.iastore, 1) := by decide +kernel
theorem dX1_shift_19 : decode cX1_shift 19 = .ok (.aload_n 0, 1) := by decide +kernel
theorem dX1_shift_20 : decode cX1_shift 20 = .ok (.getfield 18, 3) := by decide +kernel
theorem dX1_shift_23 : decode cX1_shift 23 = .ok (.iload 4, 2) := by decide +kernel
theorem dX1_shift_25 : decode cX1_shift 25 = .ok (.dup2, 1) := by decide +kernel
theorem dX1_shift_26 : decode cX1_shift 26 = .ok (.iaload, 1) := by decide +kernel
theorem dX1_shift_27 : decode cX1_shift 27 = .ok (.aload_n 1, 1) := by decide +kernel
theorem dX1_shift_28 : decode cX1_shift 28 = .ok (.getfield 39, 3) := by decide +kernel
theorem dX1_shift_31 : decode cX1_shift 31 = .ok (.iload_n 2, 1) := by decide +kernel
theorem dX1_shift_32 : decode cX1_shift 32 = .ok (.iaload, 1) := by decide +kernel
theorem dX1_shift_33 : decode cX1_shift 33 = .ok (.isub, 1) := by decide +kernel
theorem dX1_shift_34 : decode cX1_shift 34 = .ok (.iastore, 1) := by decide +kernel
theorem dX1_shift_35 : decode cX1_shift 35 = .ok (.aload_n 0, 1) := by decide +kernel
theorem dX1_shift_36 : decode cX1_shift 36 = .ok (.getfield 15, 3) := by decide +kernel
theorem dX1_shift_39 : decode cX1_shift 39 = .ok (.iload_n 3, 1) := by decide +kernel
theorem dX1_shift_40 : decode cX1_shift 40 = .ok (.dup2, 1) := by decide +kernel
theorem dX1_shift_41 : decode cX1_shift 41 = .ok (.iaload, 1) := by decide +kernel
theorem dX1_shift_42 : decode cX1_shift 42 = .ok (.iconst 1, 1) := by decide +kernel
theorem dX1_shift_43 : decode cX1_shift 43 = .ok (.iadd, 1) := by decide +kernel
theorem dX1_shift_44 : decode cX1_shift 44 = .ok (.iastore, 1) := by decide +kernel
theorem dX1_shift_45 : decode cX1_shift 45 = .ok (.aload_n 0, 1) := by decide +kernel
theorem dX1_shift_46 : decode cX1_shift 46 = .ok (.getfield 18, 3) := by decide +kernel
theorem dX1_shift_49 : decode cX1_shift 49 = .ok (.iload_n 3, 1) := by decide +kernel
theorem dX1_shift_50 : decode cX1_shift 50 = .ok (.dup2, 1) := by decide +kernel
theorem dX1_shift_51 : decode cX1_shift 51 = .ok (.iaload, 1) := by decide +kernel
theorem dX1_shift_52 : decode cX1_shift 52 = .ok (.aload_n 1, 1) := by decide +kernel
theorem dX1_shift_53 : decode cX1_shift 53 = .ok (.getfield 39, 3) := by decide +kernel
theorem dX1_shift_56 : decode cX1_shift 56 = .ok (.iload_n 2, 1) := by decide +kernel
theorem dX1_shift_57 : decode cX1_shift 57 = .ok (.iaload, 1) := by decide +kernel
theorem dX1_shift_58 : decode cX1_shift 58 = .ok (.iadd, 1) := by decide +kernel
theorem dX1_shift_59 : decode cX1_shift 59 = .ok (.iastore, 1) := by decide +kernel
theorem dX1_shift_60 : decode cX1_shift 60 = .ok (.aload_n 0, 1) := by decide +kernel
theorem dX1_shift_61 : decode cX1_shift 61 = .ok (.getfield 9, 3) := by decide +kernel
theorem dX1_shift_64 : decode cX1_shift 64 = .ok (.iload_n 2, 1) := by decide +kernel
theorem dX1_shift_65 : decode cX1_shift 65 = .ok (.iload_n 3, 1) := by decide +kernel
theorem dX1_shift_66 : decode cX1_shift 66 = .ok (.iastore, 1) := by decide +kernel
theorem dX1_shift_67 : decode cX1_shift 67 = .ok (.return_, 1) := by decide +kernel
set_option maxRecDepth 20000 in
theorem ggX1_renumber_J7_fill_53178 : GoodIn wsX1_renumber wsJ7_fill_53178 := goodIn_r _ [6] (by decide +kernel) (by decide +kernel)
set_option maxRecDepth 20000 in
theorem gX1_renumber_J7_fill_53178 : GoodIn wsX1_renumber (va_wsS RX1 27 yJ7_fill_53178 wsJ7_fill_53178) := goodIn_app (goodIn_of _ (by decide +kernel)) ggX1_renumber_J7_fill_53178
theorem dX1_renumber_0 : decode cX1_renumber 0 = .ok (.aload_n 0, 1) := by decide +kernel
theorem dX1_renumber_1 : decode cX1_renumber 1 = .ok (.getfield 24, 3) := by decide +kernel
theorem dX1_renumber_4 : decode cX1_renumber 4 = .ok (.iconst (-1), 1) := by decide +kernel
theorem dX1_renumber_5 : decode cX1_renumber 5 = .ok (.invokestatic 27, 3) := by decide +kernel
theorem dX1_renumber_8 : decode cX1_renumber 8 = .ok (.iconst 0, 1) := by decide +kernel
theorem dX1_renumber_9 : decode cX1_renumber 9 = .ok (.istore_n 2, 1) := by decide +kernel
theorem dX1_renumber_10 : decode cX1_renumber 10 = .ok (.iconst 0, 1) := by decide +kernel
theorem dX1_renumber_11 : decode cX1_renumber 11 = .ok (.istore_n 3, 1) := by decide +kernel
theorem dX1_renumber_12 : decode cX1_renumber 12 = .ok (.iload_n 3, 1) := by decide +kernel
theorem dX1_renumber_13 : decode cX1_renumber 13 = .ok (.iload_n 1, 1) := by decide +kernel
theorem dX1_renumber_14 : decode cX1_renumber 14 = .ok (.if_icmp .ge 52, 3) := by decide +kernel
theorem dX1_renumber_17 : decode cX1_renumber 17 = .ok (.aload_n 0, 1) := by decide +kernel
theorem dX1_renumber_18 : decode cX1_renumber 18 = .ok (.getfield 9, 3) := by decide +kernel
theorem dX1_renumber_21 : decode cX1_renumber 21 = .ok (.iload_n 3, 1) := by decide +kernel
theorem dX1_renumber_22 : decode cX1_renumber 22 = .ok (.iaload, 1) := by decide +kernel
theorem dX1_renumber_23 : decode cX1_renumber 23 = .ok (.istore 4, 2) := by decide +kernel
theorem dX1_renumber_25 : decode cX1_renumber 25 = .ok (.aload_n 0, 1) := by decide +kernel
theorem dX1_renumber_26 : decode cX1_renumber 26 = .ok (.getfield 24, 3) := by decide +kernel
theorem dX1_renumber_29 : decode cX1_renumber 29 = .ok (.iload 4, 2) := by decide +kernel
theorem dX1_renumber_31 : decode cX1_renumber 31 = .ok (.iaload, 1) := by decide +kernel
theorem dX1_renumber_32 : decode cX1_renumber 32 = .ok (.iconst (-1), 1) := by decide +kernel
theorem dX1_renumber_33 : decode cX1_renumber 33 = .ok (.if_icmp .ne 14, 3) := by decide +kernel
theorem dX1_renumber_36 : decode cX1_renumber 36 = .ok (.aload_n 0, 1) := by decide +kernel
theorem dX1_renumber_37 : decode cX1_renumber 37 = .ok (.getfield 24, 3) := by decide +kernel
theorem dX1_renumber_40 : decode cX1_renumber 40 = .ok (.iload 4, 2) := by decide +kernel
theorem dX1_renumber_42 : decode cX1_renumber 42 = .ok (.iload_n 2, 1) := by decide +kernel
theorem dX1_renumber_43 : decode cX1_renumber 43 = .ok (.iastore, 1) := by decide +kernel
theorem dX1_renumber_44 : decode cX1_renumber 44 = .ok (.iinc 2 1, 3) := by decide +kernel
theorem dX1_renumber_47 : decode cX1_renumber 47 = .ok (.aload_n 0, 1) := by decide +kernel
theorem dX1_renumber_48 : decode cX1_renumber 48 = .ok (.getfield 9, 3) := by decide +kernel
theorem dX1_renumber_51 : decode cX1_renumber 51 = .ok (.iload_n 3, 1) := by decide +kernel
theorem dX1_renumber_52 : decode cX1_renumber 52 = .ok (.aload_n 0, 1) := by decide +kernel
theorem dX1_renumber_53 : decode cX1_renumber 53 = .ok (.getfield 24, 3) := by decide +kernel
theorem dX1_renumber_56 : decode cX1_renumber 56 = .ok (.iload 4, 2) := by decide +kernel
theorem dX1_renumber_58 : decode cX1_renumber 58 = .ok (.iaload, 1) := by decide +kernel
theorem dX1_renumber_59 : decode cX1_renumber 59 = .ok (.iastore, 1) := by decide +kernel
theorem dX1_renumber_60 : decode cX1_renumber 60 = .ok (.iinc 3 1, 3) := by decide +kernel
theorem dX1_renumber_63 : decode cX1_renumber 63 = .ok (.goto (-51), 3) := by decide +kernel
theorem dX1_renumber_66 : decode cX1_renumber 66 = .ok (.iload_n 2, 1) := by decide +kernel
theorem dX1_renumber_67 : decode cX1_renumber 67 = .ok (.ireturn, 1) := by decide +kernel
theorem dX2_init_0 : decode cX2_init 0 = .ok (.aload_n 0, 1) := by decide +kernel
theorem dX2_init_1 : decode cX2_init 1 = .ok (.invokespecial 3, 3) := by decide +kernel
theorem dX2_init_4 : decode cX2_init 4 = .ok (.aload_n 0, 1) := by decide +kernel
theorem dX2_init_5 : decode cX2_init 5 = .ok (.sipush 160, 3) := by decide +kernel
theorem dX2_init_8 : decode cX2_init 8 = .ok (.newarray .int, 2) := by decide +kernel
theorem dX2_init_10 : decode cX2_init 10 = .ok (.putfield 9, 3) := by decide +kernel
theorem dX2_init_13 : decode cX2_init 13 = .ok (.aload_n 0, 1) := by decide +kernel
theorem dX2_init_14 : decode cX2_init 14 = .ok (.sipush 1600, 3) := by decide +kernel
theorem dX2_init_17 : decode cX2_init 17 = .ok (.newarray .int, 2) := by decide +kernel
theorem dX2_init_19 : decode cX2_init 19 = .ok (.putfield 15, 3) := by decide +kernel
theorem dX2_init_22 : decode cX2_init 22 = .ok (.aload_n 0, 1) := by decide +kernel
theorem dX2_init_23 : decode cX2_init 23 = .ok (.bipush 40, 2) := by decide +kernel
theorem dX2_init_25 : decode cX2_init 25 = .ok (.newarray .long, 2) := by decide +kernel
theorem dX2_init_27 : decode cX2_init 27 = .ok (.putfield 18, 3) := by decide +kernel
theorem dX2_init_30 : decode cX2_init 30 = .ok (.aload_n 0, 1) := by decide +kernel
theorem dX2_init_31 : decode cX2_init 31 = .ok (.iconst 0, 1) := by decide +kernel
theorem dX2_init_32 : decode cX2_init 32 = .ok (.putfield 22, 3) := by decide +kernel
theorem dX2_init_35 : decode cX2_init 35 = .ok (.return_, 1) := by decide +kernel
theorem dX2_append_0 : decode cX2_append 0 = .ok (.aload_n 0, 1) := by decide +kernel
theorem dX2_append_1 : decode cX2_append 1 = .ok (.getfield 22, 3) := by decide +kernel
theorem dX2_append_4 : decode cX2_append 4 = .ok (.bipush 40, 2) := by decide +kernel
theorem dX2_append_6 : decode cX2_append 6 = .ok (.if_icmp .ge 99, 3) := by decide +kernel
theorem dX2_append_9 : decode cX2_append 9 = .ok (.aload_n 1, 1) := by decide +kernel
theorem dX2_append_10 : decode cX2_append 10 = .ok (.iconst 0, 1) := by decide +kernel
theorem dX2_append_11 : decode cX2_append 11 = .ok (.aload_n 0, 1) := by decide +kernel
theorem dX2_append_12 : decode cX2_append 12 = .ok (.getfield 15, 3) := by decide +kernel
theorem dX2_append_15 : decode cX2_append 15 = .ok (.aload_n 0, 1) := by decide +kernel
theorem dX2_append_16 : decode cX2_append 16 = .ok (.getfield 22, 3) := by decide +kernel
theorem dX2_append_19 : decode cX2_append 19 = .ok (.bipush 40, 2) := by decide +kernel
theorem dX2_append_21 : decode cX2_append 21 = .ok (.imul, 1) := by decide +kernel
theorem dX2_append_22 : decode cX2_append 22 = .ok (.bipush 40, 2) := by decide +kernel
theorem dX2_append_24 : decode cX2_append 24 = .ok (.invokestatic 26, 3) := by decide +kernel
theorem dX2_append_27 : decode cX2_append 27 = .ok (.aload_n 0, 1) := by decide +kernel
theorem dX2_append_28 : decode cX2_append 28 = .ok (.getfield 18, 3) := by decide +kernel
theorem dX2_append_31 : decode cX2_append 31 = .ok (.aload_n 0, 1) := by decide +kernel
theorem dX2_append_32 : decode cX2_append 32 = .ok (.getfield 22, 3) := by decide +kernel
theorem dX2_append_35 : decode cX2_append 35 = .ok (.lload_n 2, 1) := by decide +kernel
theorem dX2_append_36 : decode cX2_append 36 = .ok (.lastore, 1) := by decide +kernel
theorem dX2_append_37 : decode cX2_append 37 = .ok (.aload_n 0, 1) := by decide +kernel
theorem dX2_append_38 : decode cX2_append 38 = .ok (.getfield 9, 3) := by decide +kernel
theorem dX2_append_41 : decode cX2_append 41 = .ok (.aload_n 0, 1) := by decide +kernel
theorem dX2_append_42 : decode cX2_append 42 = .ok (.getfield 22, 3) := by decide +kernel
theorem dX2_append_45 : decode cX2_append 45 = .ok (.iconst 4, 1) := by decide +kernel
theorem dX2_append_46 : decode cX2_append 46 = .ok (.imul, 1) := by decide +kernel
theorem dX2_append_47 : decode cX2_append 47 = .ok (.iload 4, 2) := by decide +kernel
theorem dX2_append_49 : decode cX2_append 49 = .ok (.iastore, 1) := by decide +kernel
theorem dX2_append_50 : decode cX2_append 50 = .ok (.aload_n 0, 1) := by decide +kernel
theorem dX2_append_51 : decode cX2_append 51 = .ok (.getfield 9, 3) := by decide +kernel
theorem dX2_append_54 : decode cX2_append 54 = .ok (.aload_n 0, 1) := by decide +kernel
theorem dX2_append_55 : decode cX2_append 55 = .ok (.getfield 22, 3) := by decide +kernel
theorem dX2_append_58 : decode cX2_append 58 = .ok (.iconst 4, 1) := by decide +kernel
theorem dX2_append_59 : decode cX2_append 59 = .ok (.imul, 1) := by decide +kernel
theorem dX2_append_60 : decode cX2_append 60 = .ok (.iconst 1, 1) := by decide +kernel
theorem dX2_append_61 : decode cX2_append 61 = .ok (.iadd, 1) := by decide +kernel
theorem dX2_append_62 : decode cX2_append 62 = .ok (.iload 5, 2) := by decide +kernel
theorem dX2_append_64 : decode cX2_append 64 = .ok (.iastore, 1) := by decide +kernel
theorem dX2_append_65 : decode cX2_append 65 = .ok (.aload_n 0, 1) := by decide +kernel
theorem dX2_append_66 : decode cX2_append 66 = .ok (.getfield 9, 3) := by decide +kernel
theorem dX2_append_69 : decode cX2_append 69 = .ok (.aload_n 0, 1) := by decide +kernel
theorem dX2_append_70 : decode cX2_append 70 = .ok (.getfield 22, 3) := by decide +kernel
theorem dX2_append_73 : decode cX2_append 73 = .ok (.iconst 4, 1) := by decide +kernel
theorem dX2_append_74 : decode cX2_append 74 = .ok (.imul, 1) := by decide +kernel
theorem dX2_append_75 : decode cX2_append 75 = .ok (.iconst 2, 1) := by decide +kernel
theorem dX2_append_76 : decode cX2_append 76 = .ok (.iadd, 1) := by decide +kernel
theorem dX2_append_77 : decode cX2_append 77 = .ok (.iload 6, 2) := by decide +kernel
theorem dX2_append_79 : decode cX2_append 79 = .ok (.iastore, 1) := by decide +kernel
theorem dX2_append_80 : decode cX2_append 80 = .ok (.aload_n 0, 1) := by decide +kernel
theorem dX2_append_81 : decode cX2_append 81 = .ok (.getfield 9, 3) := by decide +kernel
theorem dX2_append_84 : decode cX2_append 84 = .ok (.aload_n 0, 1) := by decide +kernel
theorem dX2_append_85 : decode cX2_append 85 = .ok (.getfield 22, 3) := by decide +kernel
theorem dX2_append_88 : decode cX2_append 88 = .ok (.iconst 4, 1) := by decide +kernel
theorem dX2_append_89 : decode cX2_append 89 = .ok (.imul, 1) := by decide +kernel
theorem dX2_append_90 : decode cX2_append 90 = .ok (.iconst 3, 1) := by decide +kernel
theorem dX2_append_91 : decode cX2_append 91 = .ok (.iadd, 1) := by decide +kernel
theorem dX2_append_92 : decode cX2_append 92 = .ok (.iload 7, 2) := by decide +kernel
theorem dX2_append_94 : decode cX2_append 94 = .ok (.iastore, 1) := by decide +kernel
theorem dX2_append_95 : decode cX2_append 95 = .ok (.aload_n 0, 1) := by decide +kernel
theorem dX2_append_96 : decode cX2_append 96 = .ok (.dup, 1) := by decide +kernel
theorem dX2_append_97 : decode cX2_append 97 = .ok (.getfield 22, 3) := by decide +kernel
theorem dX2_append_100 : decode cX2_append 100 = .ok (.iconst 1, 1) := by decide +kernel
theorem dX2_append_101 : decode cX2_append 101 = .ok (.iadd, 1) := by decide +kernel
theorem dX2_append_102 : decode cX2_append 102 = .ok (.putfield 22, 3) := by decide +kernel
theorem dX2_append_105 : decode cX2_append 105 = .ok (.return_, 1) := by decide +kernel
theorem dX3_init_0 : decode cX3_init 0 = .ok (.aload_n 0, 1) := by decide +kernel
theorem dX3_init_1 : decode cX3_init 1 = .ok (.invokespecial 3, 3) := by decide +kernel
theorem dX3_init_4 : decode cX3_init 4 = .ok (.aload_n 0, 1) := by decide +kernel
theorem dX3_init_5 : decode cX3_init 5 = .ok (.sipush 1600, 3) := by decide +kernel
theorem dX3_init_8 : decode cX3_init 8 = .ok (.newarray .int, 2) := by decide +kernel
theorem dX3_init_10 : decode cX3_init 10 = .ok (.putfield 9, 3) := by decide +kernel
theorem dX3_init_13 : decode cX3_init 13 = .ok (.aload_n 0, 1) := by decide +kernel
theorem dX3_init_14 : decode cX3_init 14 = .ok (.sipush 400, 3) := by decide +kernel
theorem dX3_init_17 : decode cX3_init 17 = .ok (.newarray .long, 2) := by decide +kernel
theorem dX3_init_19 : decode cX3_init 19 = .ok (.putfield 15, 3) := by decide +kernel
theorem dX3_init_22 : decode cX3_init 22 = .ok (.aload_n 0, 1) := by decide +kernel
theorem dX3_init_23 : decode cX3_init 23 = .ok (.iconst 0, 1) := by decide +kernel
theorem dX3_init_24 : decode cX3_init 24 = .ok (.putfield 19, 3) := by decide +kernel
theorem dX3_init_27 : decode cX3_init 27 = .ok (.return_, 1) := by decide +kernel
theorem dX3_append_0 : decode cX3_append 0 = .ok (.aload_n 0, 1) := by decide +kernel
theorem dX3_append_1 : decode cX3_append 1 = .ok (.getfield 19, 3) := by decide +kernel
theorem dX3_append_4 : decode cX3_append 4 = .ok (.sipush 400, 3) := by decide +kernel
theorem dX3_append_7 : decode cX3_append 7 = .ok (.if_icmp .ge 69, 3) := by decide +kernel
theorem dX3_append_10 : decode cX3_append 10 = .ok (.aload_n 0, 1) := by decide +kernel
theorem dX3_append_11 : decode cX3_append 11 = .ok (.getfield 9, 3) := by decide +kernel
theorem dX3_append_14 : decode cX3_append 14 = .ok (.aload_n 0, 1) := by decide +kernel
theorem dX3_append_15 : decode cX3_append 15 = .ok (.getfield 19, 3) := by decide +kernel
theorem dX3_append_18 : decode cX3_append 18 = .ok (.iconst 4, 1) := by decide +kernel
theorem dX3_append_19 : decode cX3_append 19 = .ok (.imul, 1) := by decide +kernel
theorem dX3_append_20 : decode cX3_append 20 = .ok (.iload_n 1, 1) := by decide +kernel
theorem dX3_append_21 : decode cX3_append 21 = .ok (.iastore, 1) := by decide +kernel
theorem dX3_append_22 : decode cX3_append 22 = .ok (.aload_n 0, 1) := by decide +kernel
theorem dX3_append_23 : decode cX3_append 23 = .ok (.getfield 9, 3) := by decide +kernel
theorem dX3_append_26 : decode cX3_append 26 = .ok (.aload_n 0, 1) := by decide +kernel
theorem dX3_append_27 : decode cX3_append 27 = .ok (.getfield 19, 3) := by decide +kernel
theorem dX3_append_30 : decode cX3_append 30 = .ok (.iconst 4, 1) := by decide +kernel
theorem dX3_append_31 : decode cX3_append 31 = .ok (.imul, 1) := by decide +kernel
theorem dX3_append_32 : decode cX3_append 32 = .ok (.iconst 1, 1) := by decide +kernel
theorem dX3_append_33 : decode cX3_append 33 = .ok (.iadd, 1) := by decide +kernel
theorem dX3_append_34 : decode cX3_append 34 = .ok (.iload_n 2, 1) := by decide +kernel
theorem dX3_append_35 : decode cX3_append 35 = .ok (.iastore, 1) := by decide +kernel
theorem dX3_append_36 : decode cX3_append 36 = .ok (.aload_n 0, 1) := by decide +kernel
theorem dX3_append_37 : decode cX3_append 37 = .ok (.getfield 9, 3) := by decide +kernel
theorem dX3_append_40 : decode cX3_append 40 = .ok (.aload_n 0, 1) := by decide +kernel
theorem dX3_append_41 : decode cX3_append 41 = .ok (.getfield 19, 3) := by decide +kernel
theorem dX3_append_44 : decode cX3_append 44 = .ok (.iconst 4, 1) := by decide +kernel
theorem dX3_append_45 : decode cX3_append 45 = .ok (.imul, 1) := by decide +kernel
theorem dX3_append_46 : decode cX3_append 46 = .ok (.iconst 2, 1) := by decide +kernel
theorem dX3_append_47 : decode cX3_append 47 = .ok (.iadd, 1) := by decide +kernel
theorem dX3_append_48 : decode cX3_append 48 = .ok (.iload_n 3, 1) := by decide +kernel
theorem dX3_append_49 : decode cX3_append 49 = .ok (.iastore, 1) := by decide +kernel
theorem dX3_append_50 : decode cX3_append 50 = .ok (.aload_n 0, 1) := by decide +kernel
theorem dX3_append_51 : decode cX3_append 51 = .ok (.getfield 9, 3) := by decide +kernel
theorem dX3_append_54 : decode cX3_append 54 = .ok (.aload_n 0, 1) := by decide +kernel
theorem dX3_append_55 : decode cX3_append 55 = .ok (.getfield 19, 3) := by decide +kernel
theorem dX3_append_58 : decode cX3_append 58 = .ok (.iconst 4, 1) := by decide +kernel
theorem dX3_append_59 : decode cX3_append 59 = .ok (.imul, 1) := by decide +kernel
theorem dX3_append_60 : decode cX3_append 60 = .ok (.iconst 3, 1) := by decide +kernel
theorem dX3_append_61 : decode cX3_append 61 = .ok (.iadd, 1) := by decide +kernel
theorem dX3_append_62 : decode cX3_append 62 = .ok (.iload 4, 2) := by decide +kernel
theorem dX3_append_64 : decode cX3_append 64 = .ok (.iastore, 1) := by decide +kernel
theorem dX3_append_65 : decode cX3_append 65 = .ok (.aload_n 0, 1) := by decide +kernel
theorem dX3_append_66 : decode cX3_append 66 = .ok (.getfield 15, 3) := by decide +kernel
theorem dX3_append_69 : decode cX3_append 69 = .ok (.aload_n 0, 1) := by decide +kernel
theorem dX3_append_70 : decode cX3_append 70 = .ok (.getfield 19, 3) := by decide +kernel
theorem dX3_append_73 : decode cX3_append 73 = .ok (.lload 5, 2) := by decide +kernel
theorem dX3_append_75 : decode cX3_append 75 = .ok (.lastore, 1) := by decide +kernel
theorem dX3_append_76 : decode cX3_append 76 = .ok (.aload_n 0, 1) := by decide +kernel
theorem dX3_append_77 : decode cX3_append 77 = .ok (.dup, 1) := by decide +kernel
theorem dX3_append_78 : decode cX3_append 78 = .ok (.getfield 19, 3) := by decide +kernel
theorem dX3_append_81 : decode cX3_append 81 = .ok (.iconst 1, 1) := by decide +kernel
theorem dX3_append_82 : decode cX3_append 82 = .ok (.iadd, 1) := by decide +kernel
theorem dX3_append_83 : decode cX3_append 83 = .ok (.putfield 19, 3) := by decide +kernel
theorem dX3_append_86 : decode cX3_append 86 = .ok (.return_, 1) := by decide +kernel
set_option maxRecDepth 20000 in
theorem ggX4_init_X0_init : GoodIn wsX4_init wsX0_init := goodIn_r _ [26, 27, 2, 3, 22, 28, 29, 30, 31, 57, 58, 59, 60] (by decide +kernel) (by decide +kernel)
set_option maxRecDepth 20000 in
theorem gX4_init_X0_init : GoodIn wsX4_init (wsX0_init) := ggX4_init_X0_init
set_option maxRecDepth 20000 in
theorem ggX4_init_X1_init : GoodIn wsX4_init wsX1_init := goodIn_r _ [34, 35, 2, 3, 22, 36, 37, 38, 39, 40, 68, 69, 70, 71, 72] (by decide +kernel) (by decide +kernel)
set_option maxRecDepth 20000 in
theorem gX4_init_X1_init : GoodIn wsX4_init (wsX1_init) := ggX4_init_X1_init
set_option maxRecDepth 20000 in
theorem ggX4_init_X2_init : GoodIn wsX4_init wsX2_init := goodIn_r _ [43, 44, 2, 3, 22, 45, 46, 47, 48, 49, 73, 74, 75, 76] (by decide +kernel) (by decide +kernel)
set_option maxRecDepth 20000 in
theorem gX4_init_X2_init : GoodIn wsX4_init (wsX2_init) := ggX4_init_X2_init
set_option maxRecDepth 20000 in
theorem ggX4_init_X3_init : GoodIn wsX4_init wsX3_init := goodIn_r _ [52, 53, 2, 3, 22, 54, 47, 55, 56, 77, 78, 79] (by decide +kernel) (by decide +kernel)
set_option maxRecDepth 20000 in
theorem gX4_init_X3_init : GoodIn wsX4_init (wsX3_init) := ggX4_init_X3_init
theorem dX4_init_0 : decode cX4_init 0 = .ok (.aload_n 0, 1) := by decide +kernel
theorem dX4_init_1 : decode cX4_init 1 = .ok (.invokespecial 1, 3) := by decide +kernel
theorem dX4_init_4 : decode cX4_init 4 = .ok (.aload_n 0, 1) := by decide +kernel
theorem dX4_init_5 : decode cX4_init 5 = .ok (.new 7, 3) := by decide +kernel
theorem dX4_init_8 : decode cX4_init 8 = .ok (.dup, 1) := by decide +kernel
theorem dX4_init_9 : decode cX4_init 9 = .ok (.invokespecial 9, 3) := by decide +kernel
theorem dX4_init_12 : decode cX4_init 12 = .ok (.putfield 10, 3) := by decide +kernel
theorem dX4_init_15 : decode cX4_init 15 = .ok (.aload_n 0, 1) := by decide +kernel
theorem dX4_init_16 : decode cX4_init 16 = .ok (.new 16, 3) := by decide +kernel
theorem dX4_init_19 : decode cX4_init 19 = .ok (.dup, 1) := by decide +kernel
theorem dX4_init_20 : decode cX4_init 20 = .ok (.invokespecial 18, 3) := by decide +kernel
theorem dX4_init_23 : decode cX4_init 23 = .ok (.putfield 19, 3) := by decide +kernel
theorem dX4_init_26 : decode cX4_init 26 = .ok (.aload_n 0, 1) := by decide +kernel
theorem dX4_init_27 : decode cX4_init 27 = .ok (.new 23, 3) := by decide +kernel
theorem dX4_init_30 : decode cX4_init 30 = .ok (.dup, 1) := by decide +kernel
theorem dX4_init_31 : decode cX4_init 31 = .ok (.invokespecial 25, 3) := by decide +kernel
theorem dX4_init_34 : decode cX4_init 34 = .ok (.putfield 26, 3) := by decide +kernel
theorem dX4_init_37 : decode cX4_init 37 = .ok (.aload_n 0, 1) := by decide +kernel
theorem dX4_init_38 : decode cX4_init 38 = .ok (.new 30, 3) := by decide +kernel
theorem dX4_init_41 : decode cX4_init 41 = .ok (.dup, 1) := by decide +kernel
theorem dX4_init_42 : decode cX4_init 42 = .ok (.invokespecial 32, 3) := by decide +kernel
theorem dX4_init_45 : decode cX4_init 45 = .ok (.putfield 33, 3) := by decide +kernel
theorem dX4_init_48 : decode cX4_init 48 = .ok (.aload_n 0, 1) := by decide +kernel
theorem dX4_init_49 : decode cX4_init 49 = .ok (.new 7, 3) := by decide +kernel
theorem dX4_init_52 : decode cX4_init 52 = .ok (.dup, 1) := by decide +kernel
theorem dX4_init_53 : decode cX4_init 53 = .ok (.invokespecial 9, 3) := by decide +kernel
theorem dX4_init_56 : decode cX4_init 56 = .ok (.putfield 37, 3) := by decide +kernel
theorem dX4_init_59 : decode cX4_init 59 = .ok (.aload_n 0, 1) := by decide +kernel
theorem dX4_init_60 : decode cX4_init 60 = .ok (.new 16, 3) := by decide +kernel
theorem dX4_init_63 : decode cX4_init 63 = .ok (.dup, 1) := by decide +kernel
theorem dX4_init_64 : decode cX4_init 64 = .ok (.invokespecial 18, 3) := by decide +kernel
theorem dX4_init_67 : decode cX4_init 67 = .ok (.putfield 40, 3) := by decide +kernel
theorem dX4_init_70 : decode cX4_init 70 = .ok (.aload_n 0, 1) := by decide +kernel
theorem dX4_init_71 : decode cX4_init 71 = .ok (.bipush 40, 2) := by decide +kernel
theorem dX4_init_73 : decode cX4_init 73 = .ok (.newarray .int, 2) := by decide +kernel
theorem dX4_init_75 : decode cX4_init 75 = .ok (.putfield 43, 3) := by decide +kernel
theorem dX4_init_78 : decode cX4_init 78 = .ok (.return_, 1) := by decide +kernel
set_option maxRecDepth 20000 in
theorem ggX4_nodes_X0_empty : GoodIn wsX4_nodes wsX0_empty := goodIn_r _ [9, 10, 11, 12, 13, 14, 15, 16, 17, 40, 41, 42, 43] (by decide +kernel) (by decide +kernel)
set_option maxRecDepth 20000 in
theorem gX4_nodes_X0_empty : GoodIn wsX4_nodes (wsV RX4 54 RX0 yX0_empty wsX0_empty) := goodIn_app (goodIn_of _ (by decide +kernel)) ggX4_nodes_X0_empty
set_option maxRecDepth 20000 in
theorem ggX4_nodes_X1_separate : GoodIn wsX4_nodes wsX1_separate := goodIn_r _ [22, 23, 44, 45, 46, 47, 48] (by decide +kernel) (by decide +kernel)
set_option maxRecDepth 20000 in
theorem gX4_nodes_X1_separate : GoodIn wsX4_nodes (wsV RX4 58 RX1 yX1_separate wsX1_separate) := goodIn_app (goodIn_of _ (by decide +kernel)) ggX4_nodes_X1_separate
set_option maxRecDepth 20000 in
theorem ggX4_nodes_X4_forgetRun : GoodIn wsX4_nodes wsX4_forgetRun := goodIn_r _ [28, 29, 30, 31, 32, 33, 34, 35, 36, 37, 38, 39, 49, 50, 51, 52, 53, 54, 55] (by decide +kernel) (by decide +kernel)
set_option maxRecDepth 20000 in
theorem gX4_nodes_X4_forgetRun : GoodIn wsX4_nodes (wsV RX4 61 RX4 yX4_forgetRun wsX4_forgetRun) := goodIn_app (goodIn_of _ (by decide +kernel)) ggX4_nodes_X4_forgetRun
theorem dX4_nodes_0 : decode cX4_nodes 0 = .ok (.iload_n 1, 1) := by decide +kernel
theorem dX4_nodes_1 : decode cX4_nodes 1 = .ok (.iconst 1, 1) := by decide +kernel
theorem dX4_nodes_2 : decode cX4_nodes 2 = .ok (.if_icmp .lt 9, 3) := by decide +kernel
theorem dX4_nodes_5 : decode cX4_nodes 5 = .ok (.iload_n 1, 1) := by decide +kernel
theorem dX4_nodes_6 : decode cX4_nodes 6 = .ok (.bipush 40, 2) := by decide +kernel
theorem dX4_nodes_8 : decode cX4_nodes 8 = .ok (.if_icmp .le 13, 3) := by decide +kernel
theorem dX4_nodes_11 : decode cX4_nodes 11 = .ok (.new 47, 3) := by decide +kernel
theorem dX4_nodes_14 : decode cX4_nodes 14 = .ok (.dup, 1) := by decide +kernel
theorem dX4_nodes_15 : decode cX4_nodes 15 = .ok (.ldc 49, 2) := by decide +kernel
theorem dX4_nodes_17 : decode cX4_nodes 17 = .ok (.invokespecial 51, 3) := by decide +kernel
theorem dX4_nodes_20 : decode cX4_nodes 20 = .ok (.athrow, 1) := by decide +kernel
theorem dX4_nodes_21 : decode cX4_nodes 21 = .ok (.aload_n 0, 1) := by decide +kernel
theorem dX4_nodes_22 : decode cX4_nodes 22 = .ok (.getfield 10, 3) := by decide +kernel
theorem dX4_nodes_25 : decode cX4_nodes 25 = .ok (.iload_n 1, 1) := by decide +kernel
theorem dX4_nodes_26 : decode cX4_nodes 26 = .ok (.invokevirtual 54, 3) := by decide +kernel
theorem dX4_nodes_29 : decode cX4_nodes 29 = .ok (.aload_n 0, 1) := by decide +kernel
theorem dX4_nodes_30 : decode cX4_nodes 30 = .ok (.getfield 19, 3) := by decide +kernel
theorem dX4_nodes_33 : decode cX4_nodes 33 = .ok (.iload_n 1, 1) := by decide +kernel
theorem dX4_nodes_34 : decode cX4_nodes 34 = .ok (.invokevirtual 58, 3) := by decide +kernel
theorem dX4_nodes_37 : decode cX4_nodes 37 = .ok (.aload_n 0, 1) := by decide +kernel
theorem dX4_nodes_38 : decode cX4_nodes 38 = .ok (.invokevirtual 61, 3) := by decide +kernel
theorem dX4_nodes_41 : decode cX4_nodes 41 = .ok (.return_, 1) := by decide +kernel
set_option maxRecDepth 20000 in
theorem ggX4_weigh_X4_requireNode : GoodIn wsX4_weigh wsX4_requireNode := goodIn_ca (goodIn_r _ [10, 11, 12, 3, 13, 34, 35, 36, 37, 38, 39, 40, 41, 42, 43, 44] (by decide +kernel) (by decide +kernel)) (goodIn_sub (fun _ h => List.mem_cons_of_mem _ (List.mem_append_right _ h)) (by decide +kernel))
set_option maxRecDepth 20000 in
theorem gX4_weigh_X4_requireNode : GoodIn wsX4_weigh (wsV RX4 64 RX4 yX4_requireNode wsX4_requireNode) := goodIn_app (goodIn_of _ (by decide +kernel)) ggX4_weigh_X4_requireNode
set_option maxRecDepth 20000 in
theorem ggX4_weigh_X0_between : GoodIn wsX4_weigh wsX0_between := goodIn_r _ [18, 19, 41, 42, 43, 44] (by decide +kernel) (by decide +kernel)
set_option maxRecDepth 20000 in
theorem gX4_weigh_X0_between : GoodIn wsX4_weigh (wsV RX4 69 RX0 yX0_between wsX0_between) := goodIn_app (goodIn_of _ (by decide +kernel)) ggX4_weigh_X0_between
set_option maxRecDepth 20000 in
theorem ggX4_weigh_X0_add : GoodIn wsX4_weigh wsX0_add := goodIn_r _ [23, 19, 24, 25, 41, 42, 43, 44] (by decide +kernel) (by decide +kernel)
set_option maxRecDepth 20000 in
theorem gX4_weigh_X0_add : GoodIn wsX4_weigh (wsV RX4 81 RX0 yX0_add wsX0_add) := goodIn_app (goodIn_of _ (by decide +kernel)) ggX4_weigh_X0_add
set_option maxRecDepth 20000 in
theorem ggX4_weigh_X4_forgetRun : GoodIn wsX4_weigh wsX4_forgetRun := goodIn_r _ [29, 30, 31, 32, 33, 34, 35, 36, 37, 38, 39, 40, 45, 46, 47, 48, 49, 50, 51] (by decide +kernel) (by decide +kernel)
set_option maxRecDepth 20000 in
theorem gX4_weigh_X4_forgetRun : GoodIn wsX4_weigh (wsV RX4 61 RX4 yX4_forgetRun wsX4_forgetRun) := goodIn_app (goodIn_of _ (by decide +kernel)) ggX4_weigh_X4_forgetRun
