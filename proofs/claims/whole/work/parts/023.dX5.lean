theorem dX5_init_0 : decode cX5_init 0 = .ok (.aload_n 0, 1) := by decide +kernel
theorem dX5_init_1 : decode cX5_init 1 = .ok (.invokespecial 1, 3) := by decide +kernel
theorem dX5_init_4 : decode cX5_init 4 = .ok (.aload_n 0, 1) := by decide +kernel
theorem dX5_init_5 : decode cX5_init 5 = .ok (.sipush 369, 3) := by decide +kernel
theorem dX5_init_8 : decode cX5_init 8 = .ok (.newarray .int, 2) := by decide +kernel
theorem dX5_init_10 : decode cX5_init 10 = .ok (.putfield 7, 3) := by decide +kernel
theorem dX5_init_13 : decode cX5_init 13 = .ok (.aload_n 0, 1) := by decide +kernel
theorem dX5_init_14 : decode cX5_init 14 = .ok (.sipush 1476, 3) := by decide +kernel
theorem dX5_init_17 : decode cX5_init 17 = .ok (.newarray .int, 2) := by decide +kernel
theorem dX5_init_19 : decode cX5_init 19 = .ok (.putfield 13, 3) := by decide +kernel
theorem dX5_init_22 : decode cX5_init 22 = .ok (.aload_n 0, 1) := by decide +kernel
theorem dX5_init_23 : decode cX5_init 23 = .ok (.sipush 369, 3) := by decide +kernel
theorem dX5_init_26 : decode cX5_init 26 = .ok (.newarray .int, 2) := by decide +kernel
theorem dX5_init_28 : decode cX5_init 28 = .ok (.putfield 16, 3) := by decide +kernel
theorem dX5_init_31 : decode cX5_init 31 = .ok (.aload_n 0, 1) := by decide +kernel
theorem dX5_init_32 : decode cX5_init 32 = .ok (.bipush 60, 2) := by decide +kernel
theorem dX5_init_34 : decode cX5_init 34 = .ok (.newarray .int, 2) := by decide +kernel
theorem dX5_init_36 : decode cX5_init 36 = .ok (.putfield 19, 3) := by decide +kernel
theorem dX5_init_39 : decode cX5_init 39 = .ok (.aload_n 0, 1) := by decide +kernel
theorem dX5_init_40 : decode cX5_init 40 = .ok (.getfield 7, 3) := by decide +kernel
theorem dX5_init_43 : decode cX5_init 43 = .ok (.iconst 1, 1) := by decide +kernel
theorem dX5_init_44 : decode cX5_init 44 = .ok (.iconst (-1), 1) := by decide +kernel
theorem dX5_init_45 : decode cX5_init 45 = .ok (.iastore, 1) := by decide +kernel
theorem dX5_init_46 : decode cX5_init 46 = .ok (.aload_n 0, 1) := by decide +kernel
theorem dX5_init_47 : decode cX5_init 47 = .ok (.getfield 7, 3) := by decide +kernel
theorem dX5_init_50 : decode cX5_init 50 = .ok (.iconst 3, 1) := by decide +kernel
theorem dX5_init_51 : decode cX5_init 51 = .ok (.iconst (-1), 1) := by decide +kernel
theorem dX5_init_52 : decode cX5_init 52 = .ok (.iastore, 1) := by decide +kernel
theorem dX5_init_53 : decode cX5_init 53 = .ok (.aload_n 0, 1) := by decide +kernel
theorem dX5_init_54 : decode cX5_init 54 = .ok (.getfield 7, 3) := by decide +kernel
theorem dX5_init_57 : decode cX5_init 57 = .ok (.bipush 8, 2) := by decide +kernel
theorem dX5_init_59 : decode cX5_init 59 = .ok (.bipush 24, 2) := by decide +kernel
theorem dX5_init_61 : decode cX5_init 61 = .ok (.iastore, 1) := by decide +kernel
theorem dX5_init_62 : decode cX5_init 62 = .ok (.aload_n 0, 1) := by decide +kernel
theorem dX5_init_63 : decode cX5_init 63 = .ok (.getfield 7, 3) := by decide +kernel
theorem dX5_init_66 : decode cX5_init 66 = .ok (.bipush 9, 2) := by decide +kernel
theorem dX5_init_68 : decode cX5_init 68 = .ok (.bipush 30, 2) := by decide +kernel
theorem dX5_init_70 : decode cX5_init 70 = .ok (.iastore, 1) := by decide +kernel
theorem dX5_init_71 : decode cX5_init 71 = .ok (.aload_n 0, 1) := by decide +kernel
theorem dX5_init_72 : decode cX5_init 72 = .ok (.getfield 7, 3) := by decide +kernel
theorem dX5_init_75 : decode cX5_init 75 = .ok (.bipush 10, 2) := by decide +kernel
theorem dX5_init_77 : decode cX5_init 77 = .ok (.bipush 10, 2) := by decide +kernel
theorem dX5_init_79 : decode cX5_init 79 = .ok (.iastore, 1) := by decide +kernel
theorem dX5_init_80 : decode cX5_init 80 = .ok (.return_, 1) := by decide +kernel
theorem dX5_in_0 : decode cX5_in 0 = .ok (.iload_n 0, 1) := by decide +kernel
theorem dX5_in_1 : decode cX5_in 1 = .ok (.iload_n 1, 1) := by decide +kernel
theorem dX5_in_2 : decode cX5_in 2 = .ok (.if_icmp .lt 12, 3) := by decide +kernel
theorem dX5_in_5 : decode cX5_in 5 = .ok (.iload_n 0, 1) := by decide +kernel
theorem dX5_in_6 : decode cX5_in 6 = .ok (.iload_n 2, 1) := by decide +kernel
theorem dX5_in_7 : decode cX5_in 7 = .ok (.if_icmp .gt 7, 3) := by decide +kernel
theorem dX5_in_10 : decode cX5_in 10 = .ok (.iconst 1, 1) := by decide +kernel
theorem dX5_in_11 : decode cX5_in 11 = .ok (.goto 4, 3) := by decide +kernel
theorem dX5_in_14 : decode cX5_in 14 = .ok (.iconst 0, 1) := by decide +kernel
theorem dX5_in_15 : decode cX5_in 15 = .ok (.ireturn, 1) := by decide +kernel
theorem dX5_copies_0 : decode cX5_copies 0 = .ok (.iconst 0, 1) := by decide +kernel
theorem dX5_copies_1 : decode cX5_copies 1 = .ok (.istore_n 2, 1) := by decide +kernel
theorem dX5_copies_2 : decode cX5_copies 2 = .ok (.iload_n 2, 1) := by decide +kernel
theorem dX5_copies_3 : decode cX5_copies 3 = .ok (.sipush 369, 3) := by decide +kernel
theorem dX5_copies_6 : decode cX5_copies 6 = .ok (.if_icmp .ge 15, 3) := by decide +kernel
theorem dX5_copies_9 : decode cX5_copies 9 = .ok (.aload_n 1, 1) := by decide +kernel
theorem dX5_copies_10 : decode cX5_copies 10 = .ok (.iload_n 2, 1) := by decide +kernel
theorem dX5_copies_11 : decode cX5_copies 11 = .ok (.aload_n 0, 1) := by decide +kernel
theorem dX5_copies_12 : decode cX5_copies 12 = .ok (.iload_n 2, 1) := by decide +kernel
theorem dX5_copies_13 : decode cX5_copies 13 = .ok (.iaload, 1) := by decide +kernel
theorem dX5_copies_14 : decode cX5_copies 14 = .ok (.iastore, 1) := by decide +kernel
theorem dX5_copies_15 : decode cX5_copies 15 = .ok (.iinc 2 1, 3) := by decide +kernel
theorem dX5_copies_18 : decode cX5_copies 18 = .ok (.goto (-16), 3) := by decide +kernel
theorem dX5_copies_21 : decode cX5_copies 21 = .ok (.return_, 1) := by decide +kernel
theorem dX5_changes_0 : decode cX5_changes 0 = .ok (.aload_n 0, 1) := by decide +kernel
theorem dX5_changes_1 : decode cX5_changes 1 = .ok (.getfield 22, 3) := by decide +kernel
theorem dX5_changes_4 : decode cX5_changes 4 = .ok (.iconst 4, 1) := by decide +kernel
theorem dX5_changes_5 : decode cX5_changes 5 = .ok (.if_icmp .ne 44, 3) := by decide +kernel
theorem dX5_changes_8 : decode cX5_changes 8 = .ok (.iconst 0, 1) := by decide +kernel
theorem dX5_changes_9 : decode cX5_changes 9 = .ok (.istore_n 1, 1) := by decide +kernel
theorem dX5_changes_10 : decode cX5_changes 10 = .ok (.iload_n 1, 1) := by decide +kernel
theorem dX5_changes_11 : decode cX5_changes 11 = .ok (.sipush 1107, 3) := by decide +kernel
theorem dX5_changes_14 : decode cX5_changes 14 = .ok (.if_icmp .ge 25, 3) := by decide +kernel
theorem dX5_changes_17 : decode cX5_changes 17 = .ok (.aload_n 0, 1) := by decide +kernel
theorem dX5_changes_18 : decode cX5_changes 18 = .ok (.getfield 13, 3) := by decide +kernel
theorem dX5_changes_21 : decode cX5_changes 21 = .ok (.iload_n 1, 1) := by decide +kernel
theorem dX5_changes_22 : decode cX5_changes 22 = .ok (.aload_n 0, 1) := by decide +kernel
theorem dX5_changes_23 : decode cX5_changes 23 = .ok (.getfield 13, 3) := by decide +kernel
theorem dX5_changes_26 : decode cX5_changes 26 = .ok (.iload_n 1, 1) := by decide +kernel
theorem dX5_changes_27 : decode cX5_changes 27 = .ok (.sipush 369, 3) := by decide +kernel
theorem dX5_changes_30 : decode cX5_changes 30 = .ok (.iadd, 1) := by decide +kernel
theorem dX5_changes_31 : decode cX5_changes 31 = .ok (.iaload, 1) := by decide +kernel
theorem dX5_changes_32 : decode cX5_changes 32 = .ok (.iastore, 1) := by decide +kernel
theorem dX5_changes_33 : decode cX5_changes 33 = .ok (.iinc 1 1, 3) := by decide +kernel
theorem dX5_changes_36 : decode cX5_changes 36 = .ok (.goto (-26), 3) := by decide +kernel
theorem dX5_changes_39 : decode cX5_changes 39 = .ok (.aload_n 0, 1) := by decide +kernel
theorem dX5_changes_40 : decode cX5_changes 40 = .ok (.dup, 1) := by decide +kernel
theorem dX5_changes_41 : decode cX5_changes 41 = .ok (.getfield 22, 3) := by decide +kernel
theorem dX5_changes_44 : decode cX5_changes 44 = .ok (.iconst 1, 1) := by decide +kernel
theorem dX5_changes_45 : decode cX5_changes 45 = .ok (.isub, 1) := by decide +kernel
theorem dX5_changes_46 : decode cX5_changes 46 = .ok (.putfield 22, 3) := by decide +kernel
theorem dX5_changes_49 : decode cX5_changes 49 = .ok (.iconst 0, 1) := by decide +kernel
theorem dX5_changes_50 : decode cX5_changes 50 = .ok (.istore_n 1, 1) := by decide +kernel
theorem dX5_changes_51 : decode cX5_changes 51 = .ok (.iload_n 1, 1) := by decide +kernel
theorem dX5_changes_52 : decode cX5_changes 52 = .ok (.sipush 369, 3) := by decide +kernel
theorem dX5_changes_55 : decode cX5_changes 55 = .ok (.if_icmp .ge 30, 3) := by decide +kernel
theorem dX5_changes_58 : decode cX5_changes 58 = .ok (.aload_n 0, 1) := by decide +kernel
theorem dX5_changes_59 : decode cX5_changes 59 = .ok (.getfield 13, 3) := by decide +kernel
theorem dX5_changes_62 : decode cX5_changes 62 = .ok (.sipush 369, 3) := by decide +kernel
theorem dX5_changes_65 : decode cX5_changes 65 = .ok (.aload_n 0, 1) := by decide +kernel
theorem dX5_changes_66 : decode cX5_changes 66 = .ok (.getfield 22, 3) := by decide +kernel
theorem dX5_changes_69 : decode cX5_changes 69 = .ok (.imul, 1) := by decide +kernel
theorem dX5_changes_70 : decode cX5_changes 70 = .ok (.iload_n 1, 1) := by decide +kernel
theorem dX5_changes_71 : decode cX5_changes 71 = .ok (.iadd, 1) := by decide +kernel
theorem dX5_changes_72 : decode cX5_changes 72 = .ok (.aload_n 0, 1) := by decide +kernel
theorem dX5_changes_73 : decode cX5_changes 73 = .ok (.getfield 7, 3) := by decide +kernel
theorem dX5_changes_76 : decode cX5_changes 76 = .ok (.iload_n 1, 1) := by decide +kernel
theorem dX5_changes_77 : decode cX5_changes 77 = .ok (.iaload, 1) := by decide +kernel
theorem dX5_changes_78 : decode cX5_changes 78 = .ok (.iastore, 1) := by decide +kernel
theorem dX5_changes_79 : decode cX5_changes 79 = .ok (.iinc 1 1, 3) := by decide +kernel
theorem dX5_changes_82 : decode cX5_changes 82 = .ok (.goto (-31), 3) := by decide +kernel
theorem dX5_changes_85 : decode cX5_changes 85 = .ok (.aload_n 0, 1) := by decide +kernel
theorem dX5_changes_86 : decode cX5_changes 86 = .ok (.dup, 1) := by decide +kernel
theorem dX5_changes_87 : decode cX5_changes 87 = .ok (.getfield 22, 3) := by decide +kernel
theorem dX5_changes_90 : decode cX5_changes 90 = .ok (.iconst 1, 1) := by decide +kernel
theorem dX5_changes_91 : decode cX5_changes 91 = .ok (.iadd, 1) := by decide +kernel
theorem dX5_changes_92 : decode cX5_changes 92 = .ok (.putfield 22, 3) := by decide +kernel
theorem dX5_changes_95 : decode cX5_changes 95 = .ok (.return_, 1) := by decide +kernel
theorem dX5_ones_0 : decode cX5_ones 0 = .ok (.iconst 0, 1) := by decide +kernel
theorem dX5_ones_1 : decode cX5_ones 1 = .ok (.istore_n 1, 1) := by decide +kernel
theorem dX5_ones_2 : decode cX5_ones 2 = .ok (.iload_n 0, 1) := by decide +kernel
theorem dX5_ones_3 : decode cX5_ones 3 = .ok (.istore_n 2, 1) := by decide +kernel
theorem dX5_ones_4 : decode cX5_ones 4 = .ok (.iload_n 2, 1) := by decide +kernel
theorem dX5_ones_5 : decode cX5_ones 5 = .ok (.ifCond .eq 15, 3) := by decide +kernel
theorem dX5_ones_8 : decode cX5_ones 8 = .ok (.iinc 1 1, 3) := by decide +kernel
theorem dX5_ones_11 : decode cX5_ones 11 = .ok (.iload_n 2, 1) := by decide +kernel
theorem dX5_ones_12 : decode cX5_ones 12 = .ok (.iload_n 2, 1) := by decide +kernel
theorem dX5_ones_13 : decode cX5_ones 13 = .ok (.iconst 1, 1) := by decide +kernel
theorem dX5_ones_14 : decode cX5_ones 14 = .ok (.isub, 1) := by decide +kernel
theorem dX5_ones_15 : decode cX5_ones 15 = .ok (.iand, 1) := by decide +kernel
theorem dX5_ones_16 : decode cX5_ones 16 = .ok (.istore_n 2, 1) := by decide +kernel
theorem dX5_ones_17 : decode cX5_ones 17 = .ok (.goto (-13), 3) := by decide +kernel
theorem dX5_ones_20 : decode cX5_ones 20 = .ok (.iload_n 1, 1) := by decide +kernel
theorem dX5_ones_21 : decode cX5_ones 21 = .ok (.ireturn, 1) := by decide +kernel
theorem dX5_isRow_0 : decode cX5_isRow 0 = .ok (.iload_n 1, 1) := by decide +kernel
theorem dX5_isRow_1 : decode cX5_isRow 1 = .ok (.ifCond .lt 17, 3) := by decide +kernel
theorem dX5_isRow_4 : decode cX5_isRow 4 = .ok (.iload_n 1, 1) := by decide +kernel
theorem dX5_isRow_5 : decode cX5_isRow 5 = .ok (.aload_n 0, 1) := by decide +kernel
theorem dX5_isRow_6 : decode cX5_isRow 6 = .ok (.getfield 7, 3) := by decide +kernel
theorem dX5_isRow_9 : decode cX5_isRow 9 = .ok (.iconst 0, 1) := by decide +kernel
theorem dX5_isRow_10 : decode cX5_isRow 10 = .ok (.iaload, 1) := by decide +kernel
theorem dX5_isRow_11 : decode cX5_isRow 11 = .ok (.if_icmp .ge 7, 3) := by decide +kernel
theorem dX5_isRow_14 : decode cX5_isRow 14 = .ok (.iconst 1, 1) := by decide +kernel
theorem dX5_isRow_15 : decode cX5_isRow 15 = .ok (.goto 4, 3) := by decide +kernel
theorem dX5_isRow_18 : decode cX5_isRow 18 = .ok (.iconst 0, 1) := by decide +kernel
theorem dX5_isRow_19 : decode cX5_isRow 19 = .ok (.ireturn, 1) := by decide +kernel
theorem dX5_isRoute_0 : decode cX5_isRoute 0 = .ok (.iload_n 1, 1) := by decide +kernel
theorem dX5_isRoute_1 : decode cX5_isRoute 1 = .ok (.ifCond .lt 17, 3) := by decide +kernel
theorem dX5_isRoute_4 : decode cX5_isRoute 4 = .ok (.iload_n 1, 1) := by decide +kernel
theorem dX5_isRoute_5 : decode cX5_isRoute 5 = .ok (.aload_n 0, 1) := by decide +kernel
theorem dX5_isRoute_6 : decode cX5_isRoute 6 = .ok (.getfield 7, 3) := by decide +kernel
theorem dX5_isRoute_9 : decode cX5_isRoute 9 = .ok (.iconst 2, 1) := by decide +kernel
theorem dX5_isRoute_10 : decode cX5_isRoute 10 = .ok (.iaload, 1) := by decide +kernel
theorem dX5_isRoute_11 : decode cX5_isRoute 11 = .ok (.if_icmp .ge 7, 3) := by decide +kernel
theorem dX5_isRoute_14 : decode cX5_isRoute 14 = .ok (.iconst 1, 1) := by decide +kernel
theorem dX5_isRoute_15 : decode cX5_isRoute 15 = .ok (.goto 4, 3) := by decide +kernel
theorem dX5_isRoute_18 : decode cX5_isRoute 18 = .ok (.iconst 0, 1) := by decide +kernel
theorem dX5_isRoute_19 : decode cX5_isRoute 19 = .ok (.ireturn, 1) := by decide +kernel
theorem dX5_of_0 : decode cX5_of 0 = .ok (.aload_n 0, 1) := by decide +kernel
theorem dX5_of_1 : decode cX5_of 1 = .ok (.getfield 7, 3) := by decide +kernel
theorem dX5_of_4 : decode cX5_of 4 = .ok (.bipush 11, 2) := by decide +kernel
theorem dX5_of_6 : decode cX5_of 6 = .ok (.bipush 17, 2) := by decide +kernel
theorem dX5_of_8 : decode cX5_of 8 = .ok (.iload_n 1, 1) := by decide +kernel
theorem dX5_of_9 : decode cX5_of 9 = .ok (.imul, 1) := by decide +kernel
theorem dX5_of_10 : decode cX5_of 10 = .ok (.iadd, 1) := by decide +kernel
theorem dX5_of_11 : decode cX5_of 11 = .ok (.iload_n 2, 1) := by decide +kernel
theorem dX5_of_12 : decode cX5_of 12 = .ok (.iadd, 1) := by decide +kernel
theorem dX5_of_13 : decode cX5_of 13 = .ok (.iaload, 1) := by decide +kernel
theorem dX5_of_14 : decode cX5_of 14 = .ok (.ireturn, 1) := by decide +kernel
theorem dX5_sets_0 : decode cX5_sets 0 = .ok (.aload_n 0, 1) := by decide +kernel
theorem dX5_sets_1 : decode cX5_sets 1 = .ok (.getfield 7, 3) := by decide +kernel
theorem dX5_sets_4 : decode cX5_sets 4 = .ok (.bipush 11, 2) := by decide +kernel
theorem dX5_sets_6 : decode cX5_sets 6 = .ok (.bipush 17, 2) := by decide +kernel
theorem dX5_sets_8 : decode cX5_sets 8 = .ok (.iload_n 1, 1) := by decide +kernel
theorem dX5_sets_9 : decode cX5_sets 9 = .ok (.imul, 1) := by decide +kernel
theorem dX5_sets_10 : decode cX5_sets 10 = .ok (.iadd, 1) := by decide +kernel
theorem dX5_sets_11 : decode cX5_sets 11 = .ok (.iload_n 2, 1) := by decide +kernel
theorem dX5_sets_12 : decode cX5_sets 12 = .ok (.iadd, 1) := by decide +kernel
theorem dX5_sets_13 : decode cX5_sets 13 = .ok (.iload_n 3, 1) := by decide +kernel
theorem dX5_sets_14 : decode cX5_sets 14 = .ok (.iastore, 1) := by decide +kernel
theorem dX5_sets_15 : decode cX5_sets 15 = .ok (.return_, 1) := by decide +kernel
theorem dX5_ofRoute_0 : decode cX5_ofRoute 0 = .ok (.aload_n 0, 1) := by decide +kernel
theorem dX5_ofRoute_1 : decode cX5_ofRoute 1 = .ok (.getfield 7, 3) := by decide +kernel
theorem dX5_ofRoute_4 : decode cX5_ofRoute 4 = .ok (.sipush 351, 3) := by decide +kernel
theorem dX5_ofRoute_7 : decode cX5_ofRoute 7 = .ok (.iconst 3, 1) := by decide +kernel
theorem dX5_ofRoute_8 : decode cX5_ofRoute 8 = .ok (.iload_n 1, 1) := by decide +kernel
theorem dX5_ofRoute_9 : decode cX5_ofRoute 9 = .ok (.imul, 1) := by decide +kernel
theorem dX5_ofRoute_10 : decode cX5_ofRoute 10 = .ok (.iadd, 1) := by decide +kernel
theorem dX5_ofRoute_11 : decode cX5_ofRoute 11 = .ok (.iload_n 2, 1) := by decide +kernel
theorem dX5_ofRoute_12 : decode cX5_ofRoute 12 = .ok (.iadd, 1) := by decide +kernel
theorem dX5_ofRoute_13 : decode cX5_ofRoute 13 = .ok (.iaload, 1) := by decide +kernel
theorem dX5_ofRoute_14 : decode cX5_ofRoute 14 = .ok (.ireturn, 1) := by decide +kernel
theorem dX5_wide_0 : decode cX5_wide 0 = .ok (.iload_n 0, 1) := by decide +kernel
theorem dX5_wide_1 : decode cX5_wide 1 = .ok (.bipush 73, 2) := by decide +kernel
theorem dX5_wide_3 : decode cX5_wide 3 = .ok (.if_icmp .eq 9, 3) := by decide +kernel
theorem dX5_wide_6 : decode cX5_wide 6 = .ok (.iload_n 0, 1) := by decide +kernel
theorem dX5_wide_7 : decode cX5_wide 7 = .ok (.bipush 32, 2) := by decide +kernel
theorem dX5_wide_9 : decode cX5_wide 9 = .ok (.if_icmp .ne 7, 3) := by decide +kernel
theorem dX5_wide_12 : decode cX5_wide 12 = .ok (.iconst 1, 1) := by decide +kernel
theorem dX5_wide_13 : decode cX5_wide 13 = .ok (.goto 20, 3) := by decide +kernel
theorem dX5_wide_16 : decode cX5_wide 16 = .ok (.iload_n 0, 1) := by decide +kernel
theorem dX5_wide_17 : decode cX5_wide 17 = .ok (.bipush 77, 2) := by decide +kernel
theorem dX5_wide_19 : decode cX5_wide 19 = .ok (.if_icmp .eq 9, 3) := by decide +kernel
theorem dX5_wide_22 : decode cX5_wide 22 = .ok (.iload_n 0, 1) := by decide +kernel
theorem dX5_wide_23 : decode cX5_wide 23 = .ok (.bipush 87, 2) := by decide +kernel
theorem dX5_wide_25 : decode cX5_wide 25 = .ok (.if_icmp .ne 7, 3) := by decide +kernel
theorem dX5_wide_28 : decode cX5_wide 28 = .ok (.iconst 3, 1) := by decide +kernel
theorem dX5_wide_29 : decode cX5_wide 29 = .ok (.goto 4, 3) := by decide +kernel
theorem dX5_wide_32 : decode cX5_wide 32 = .ok (.iconst 2, 1) := by decide +kernel
theorem dX5_wide_33 : decode cX5_wide 33 = .ok (.ireturn, 1) := by decide +kernel
set_option maxRecDepth 20000 in
theorem ggX5_width_X5_of : GoodIn wsX5_width wsX5_of := goodIn_r _ [5, 6, 10, 11, 12, 13, 14, 15, 16, 17, 18, 19, 20, 21, 22] (by decide +kernel) (by decide +kernel)
set_option maxRecDepth 20000 in
theorem gX5_width_X5_of : GoodIn wsX5_width (wsV RX5 26 RX5 yX5_of wsX5_of) := goodIn_app (goodIn_of _ (by decide +kernel)) ggX5_width_X5_of
set_option maxRecDepth 20000 in
theorem ggX5_width_X5_wide : GoodIn wsX5_width wsX5_wide := goodIn_r _ [9] (by decide +kernel) (by decide +kernel)
set_option maxRecDepth 20000 in
theorem gX5_width_X5_wide : GoodIn wsX5_width (va_wsS RX5 30 yX5_wide wsX5_wide) := goodIn_app (goodIn_of _ (by decide +kernel)) ggX5_width_X5_wide
theorem dX5_width_0 : decode cX5_width 0 = .ok (.iconst 0, 1) := by decide +kernel
theorem dX5_width_1 : decode cX5_width 1 = .ok (.istore_n 2, 1) := by decide +kernel
theorem dX5_width_2 : decode cX5_width 2 = .ok (.iconst 0, 1) := by decide +kernel
theorem dX5_width_3 : decode cX5_width 3 = .ok (.istore_n 3, 1) := by decide +kernel
theorem dX5_width_4 : decode cX5_width 4 = .ok (.iload_n 3, 1) := by decide +kernel
theorem dX5_width_5 : decode cX5_width 5 = .ok (.aload_n 0, 1) := by decide +kernel
theorem dX5_width_6 : decode cX5_width 6 = .ok (.iload_n 1, 1) := by decide +kernel
theorem dX5_width_7 : decode cX5_width 7 = .ok (.iconst 0, 1) := by decide +kernel
theorem dX5_width_8 : decode cX5_width 8 = .ok (.invokevirtual 26, 3) := by decide +kernel
theorem dX5_width_11 : decode cX5_width 11 = .ok (.if_icmp .ge 23, 3) := by decide +kernel
theorem dX5_width_14 : decode cX5_width 14 = .ok (.iload_n 2, 1) := by decide +kernel
theorem dX5_width_15 : decode cX5_width 15 = .ok (.aload_n 0, 1) := by decide +kernel
theorem dX5_width_16 : decode cX5_width 16 = .ok (.iload_n 1, 1) := by decide +kernel
theorem dX5_width_17 : decode cX5_width 17 = .ok (.iconst 3, 1) := by decide +kernel
theorem dX5_width_18 : decode cX5_width 18 = .ok (.iload_n 3, 1) := by decide +kernel
theorem dX5_width_19 : decode cX5_width 19 = .ok (.iadd, 1) := by decide +kernel
theorem dX5_width_20 : decode cX5_width 20 = .ok (.invokevirtual 26, 3) := by decide +kernel
theorem dX5_width_23 : decode cX5_width 23 = .ok (.invokestatic 30, 3) := by decide +kernel
theorem dX5_width_26 : decode cX5_width 26 = .ok (.iadd, 1) := by decide +kernel
theorem dX5_width_27 : decode cX5_width 27 = .ok (.istore_n 2, 1) := by decide +kernel
theorem dX5_width_28 : decode cX5_width 28 = .ok (.iinc 3 1, 3) := by decide +kernel
theorem dX5_width_31 : decode cX5_width 31 = .ok (.goto (-27), 3) := by decide +kernel
theorem dX5_width_34 : decode cX5_width 34 = .ok (.iload_n 2, 1) := by decide +kernel
theorem dX5_width_35 : decode cX5_width 35 = .ok (.ireturn, 1) := by decide +kernel
theorem dX5_squeezed_0 : decode cX5_squeezed 0 = .ok (.iload_n 1, 1) := by decide +kernel
theorem dX5_squeezed_1 : decode cX5_squeezed 1 = .ok (.aload_n 0, 1) := by decide +kernel
theorem dX5_squeezed_2 : decode cX5_squeezed 2 = .ok (.getfield 7, 3) := by decide +kernel
theorem dX5_squeezed_5 : decode cX5_squeezed 5 = .ok (.bipush 8, 2) := by decide +kernel
theorem dX5_squeezed_7 : decode cX5_squeezed 7 = .ok (.iaload, 1) := by decide +kernel
theorem dX5_squeezed_8 : decode cX5_squeezed 8 = .ok (.if_icmp .le 18, 3) := by decide +kernel
theorem dX5_squeezed_11 : decode cX5_squeezed 11 = .ok (.iload_n 1, 1) := by decide +kernel
theorem dX5_squeezed_12 : decode cX5_squeezed 12 = .ok (.bipush 100, 2) := by decide +kernel
theorem dX5_squeezed_14 : decode cX5_squeezed 14 = .ok (.imul, 1) := by decide +kernel
theorem dX5_squeezed_15 : decode cX5_squeezed 15 = .ok (.aload_n 0, 1) := by decide +kernel
theorem dX5_squeezed_16 : decode cX5_squeezed 16 = .ok (.getfield 7, 3) := by decide +kernel
theorem dX5_squeezed_19 : decode cX5_squeezed 19 = .ok (.bipush 8, 2) := by decide +kernel
theorem dX5_squeezed_21 : decode cX5_squeezed 21 = .ok (.iaload, 1) := by decide +kernel
theorem dX5_squeezed_22 : decode cX5_squeezed 22 = .ok (.idiv, 1) := by decide +kernel
theorem dX5_squeezed_23 : decode cX5_squeezed 23 = .ok (.goto 5, 3) := by decide +kernel
theorem dX5_squeezed_26 : decode cX5_squeezed 26 = .ok (.bipush 100, 2) := by decide +kernel
theorem dX5_squeezed_28 : decode cX5_squeezed 28 = .ok (.ireturn, 1) := by decide +kernel
set_option maxRecDepth 20000 in
theorem ggX5_isName_X5_of : GoodIn wsX5_isName wsX5_of := goodIn_r _ [6, 7, 8, 9, 10, 11, 12, 13, 14, 15, 16, 17, 18, 19, 20] (by decide +kernel) (by decide +kernel)
set_option maxRecDepth 20000 in
theorem gX5_isName_X5_of : GoodIn wsX5_isName (wsV RX5 26 RX5 yX5_of wsX5_of) := goodIn_app (goodIn_of _ (by decide +kernel)) ggX5_isName_X5_of
theorem dX5_isName_0 : decode cX5_isName 0 = .ok (.lconst 0, 1) := by decide +kernel
theorem dX5_isName_1 : decode cX5_isName 1 = .ok (.lstore 4, 2) := by decide +kernel
theorem dX5_isName_3 : decode cX5_isName 3 = .ok (.iconst 0, 1) := by decide +kernel
theorem dX5_isName_4 : decode cX5_isName 4 = .ok (.istore 6, 2) := by decide +kernel
theorem dX5_isName_6 : decode cX5_isName 6 = .ok (.iload 6, 2) := by decide +kernel
theorem dX5_isName_8 : decode cX5_isName 8 = .ok (.aload_n 0, 1) := by decide +kernel
theorem dX5_isName_9 : decode cX5_isName 9 = .ok (.iload_n 1, 1) := by decide +kernel
theorem dX5_isName_10 : decode cX5_isName 10 = .ok (.iconst 0, 1) := by decide +kernel
theorem dX5_isName_11 : decode cX5_isName 11 = .ok (.invokevirtual 26, 3) := by decide +kernel
theorem dX5_isName_14 : decode cX5_isName 14 = .ok (.if_icmp .ge 31, 3) := by decide +kernel
theorem dX5_isName_17 : decode cX5_isName 17 = .ok (.ldc2_w 34, 3) := by decide +kernel
theorem dX5_isName_20 : decode cX5_isName 20 = .ok (.lload 4, 2) := by decide +kernel
theorem dX5_isName_22 : decode cX5_isName 22 = .ok (.lmul, 1) := by decide +kernel
theorem dX5_isName_23 : decode cX5_isName 23 = .ok (.aload_n 0, 1) := by decide +kernel
theorem dX5_isName_24 : decode cX5_isName 24 = .ok (.iload_n 1, 1) := by decide +kernel
theorem dX5_isName_25 : decode cX5_isName 25 = .ok (.iconst 3, 1) := by decide +kernel
theorem dX5_isName_26 : decode cX5_isName 26 = .ok (.iload 6, 2) := by decide +kernel
theorem dX5_isName_28 : decode cX5_isName 28 = .ok (.iadd, 1) := by decide +kernel
theorem dX5_isName_29 : decode cX5_isName 29 = .ok (.invokevirtual 26, 3) := by decide +kernel
theorem dX5_isName_32 : decode cX5_isName 32 = .ok (.bipush 32, 2) := by decide +kernel
theorem dX5_isName_34 : decode cX5_isName 34 = .ok (.irem, 1) := by decide +kernel
theorem dX5_isName_35 : decode cX5_isName 35 = .ok (.i2l, 1) := by decide +kernel
theorem dX5_isName_36 : decode cX5_isName 36 = .ok (.ladd, 1) := by decide +kernel
theorem dX5_isName_37 : decode cX5_isName 37 = .ok (.lstore 4, 2) := by decide +kernel
theorem dX5_isName_39 : decode cX5_isName 39 = .ok (.iinc 6 1, 3) := by decide +kernel
theorem dX5_isName_42 : decode cX5_isName 42 = .ok (.goto (-36), 3) := by decide +kernel
theorem dX5_isName_45 : decode cX5_isName 45 = .ok (.lload 4, 2) := by decide +kernel
theorem dX5_isName_47 : decode cX5_isName 47 = .ok (.lload_n 2, 1) := by decide +kernel
theorem dX5_isName_48 : decode cX5_isName 48 = .ok (.lcmp, 1) := by decide +kernel
theorem dX5_isName_49 : decode cX5_isName 49 = .ok (.ifCond .ne 7, 3) := by decide +kernel
theorem dX5_isName_52 : decode cX5_isName 52 = .ok (.iconst 1, 1) := by decide +kernel
theorem dX5_isName_53 : decode cX5_isName 53 = .ok (.goto 4, 3) := by decide +kernel
theorem dX5_isName_56 : decode cX5_isName 56 = .ok (.iconst 0, 1) := by decide +kernel
theorem dX5_isName_57 : decode cX5_isName 57 = .ok (.ireturn, 1) := by decide +kernel
set_option maxRecDepth 20000 in
theorem ggX5_kind_X5_isName : GoodIn wsX5_kind wsX5_isName := goodIn_r _ [8, 9, 10, 11, 12, 7, 13, 14, 15, 16, 17, 18, 19, 20, 21, 22, 23, 24, 25, 26, 27] (by decide +kernel) (by decide +kernel)
set_option maxRecDepth 20000 in
theorem gX5_kind_X5_isName : GoodIn wsX5_kind (wsV RX5 38 RX5 yX5_isName wsX5_isName) := goodIn_app (goodIn_of _ (by decide +kernel)) ggX5_kind_X5_isName
set_option maxRecDepth 20000 in
theorem ggX5_kind_X5_of : GoodIn wsX5_kind wsX5_of := goodIn_r _ [13, 14, 15, 16, 17, 18, 19, 20, 21, 22, 23, 24, 25, 26, 27] (by decide +kernel) (by decide +kernel)
set_option maxRecDepth 20000 in
theorem gX5_kind_X5_of : GoodIn wsX5_kind (wsV RX5 26 RX5 yX5_of wsX5_of) := goodIn_app (goodIn_of _ (by decide +kernel)) ggX5_kind_X5_of
theorem dX5_kind_0 : decode cX5_kind 0 = .ok (.aload_n 0, 1) := by decide +kernel
theorem dX5_kind_1 : decode cX5_kind 1 = .ok (.iload_n 1, 1) := by decide +kernel
theorem dX5_kind_2 : decode cX5_kind 2 = .ok (.ldc2_w 36, 3) := by decide +kernel
theorem dX5_kind_5 : decode cX5_kind 5 = .ok (.invokevirtual 38, 3) := by decide +kernel
theorem dX5_kind_8 : decode cX5_kind 8 = .ok (.ifCond .eq 5, 3) := by decide +kernel
theorem dX5_kind_11 : decode cX5_kind 11 = .ok (.iconst 1, 1) := by decide +kernel
theorem dX5_kind_12 : decode cX5_kind 12 = .ok (.ireturn, 1) := by decide +kernel
theorem dX5_kind_13 : decode cX5_kind 13 = .ok (.aload_n 0, 1) := by decide +kernel
theorem dX5_kind_14 : decode cX5_kind 14 = .ok (.iload_n 1, 1) := by decide +kernel
theorem dX5_kind_15 : decode cX5_kind 15 = .ok (.ldc2_w 42, 3) := by decide +kernel
theorem dX5_kind_18 : decode cX5_kind 18 = .ok (.invokevirtual 38, 3) := by decide +kernel
theorem dX5_kind_21 : decode cX5_kind 21 = .ok (.ifCond .eq 5, 3) := by decide +kernel
theorem dX5_kind_24 : decode cX5_kind 24 = .ok (.iconst 2, 1) := by decide +kernel
theorem dX5_kind_25 : decode cX5_kind 25 = .ok (.ireturn, 1) := by decide +kernel
theorem dX5_kind_26 : decode cX5_kind 26 = .ok (.aload_n 0, 1) := by decide +kernel
theorem dX5_kind_27 : decode cX5_kind 27 = .ok (.iload_n 1, 1) := by decide +kernel
theorem dX5_kind_28 : decode cX5_kind 28 = .ok (.ldc2_w 44, 3) := by decide +kernel
theorem dX5_kind_31 : decode cX5_kind 31 = .ok (.invokevirtual 38, 3) := by decide +kernel
theorem dX5_kind_34 : decode cX5_kind 34 = .ok (.ifCond .eq 5, 3) := by decide +kernel
theorem dX5_kind_37 : decode cX5_kind 37 = .ok (.iconst 3, 1) := by decide +kernel
theorem dX5_kind_38 : decode cX5_kind 38 = .ok (.ireturn, 1) := by decide +kernel
theorem dX5_kind_39 : decode cX5_kind 39 = .ok (.aload_n 0, 1) := by decide +kernel
theorem dX5_kind_40 : decode cX5_kind 40 = .ok (.iload_n 1, 1) := by decide +kernel
theorem dX5_kind_41 : decode cX5_kind 41 = .ok (.iconst 0, 1) := by decide +kernel
theorem dX5_kind_42 : decode cX5_kind 42 = .ok (.invokevirtual 26, 3) := by decide +kernel
theorem dX5_kind_45 : decode cX5_kind 45 = .ok (.iconst 1, 1) := by decide +kernel
theorem dX5_kind_46 : decode cX5_kind 46 = .ok (.if_icmp .ne 7, 3) := by decide +kernel
theorem dX5_kind_49 : decode cX5_kind 49 = .ok (.iconst 4, 1) := by decide +kernel
theorem dX5_kind_50 : decode cX5_kind 50 = .ok (.goto 4, 3) := by decide +kernel
theorem dX5_kind_53 : decode cX5_kind 53 = .ok (.iconst 0, 1) := by decide +kernel
theorem dX5_kind_54 : decode cX5_kind 54 = .ok (.ireturn, 1) := by decide +kernel
theorem dX5_fails_0 : decode cX5_fails 0 = .ok (.aload_n 0, 1) := by decide +kernel
theorem dX5_fails_1 : decode cX5_fails 1 = .ok (.iload_n 1, 1) := by decide +kernel
theorem dX5_fails_2 : decode cX5_fails 2 = .ok (.putfield 46, 3) := by decide +kernel
theorem dX5_fails_5 : decode cX5_fails 5 = .ok (.aload_n 0, 1) := by decide +kernel
theorem dX5_fails_6 : decode cX5_fails 6 = .ok (.iload_n 2, 1) := by decide +kernel
theorem dX5_fails_7 : decode cX5_fails 7 = .ok (.putfield 49, 3) := by decide +kernel
theorem dX5_fails_10 : decode cX5_fails 10 = .ok (.iconst 0, 1) := by decide +kernel
theorem dX5_fails_11 : decode cX5_fails 11 = .ok (.ireturn, 1) := by decide +kernel
theorem dX5_isEnd_0 : decode cX5_isEnd 0 = .ok (.aload_n 0, 1) := by decide +kernel
theorem dX5_isEnd_1 : decode cX5_isEnd 1 = .ok (.getfield 52, 3) := by decide +kernel
theorem dX5_isEnd_4 : decode cX5_isEnd 4 = .ok (.aload_n 0, 1) := by decide +kernel
theorem dX5_isEnd_5 : decode cX5_isEnd 5 = .ok (.getfield 55, 3) := by decide +kernel
theorem dX5_isEnd_8 : decode cX5_isEnd 8 = .ok (.if_icmp .eq 17, 3) := by decide +kernel
theorem dX5_isEnd_11 : decode cX5_isEnd 11 = .ok (.aload_n 0, 1) := by decide +kernel
theorem dX5_isEnd_12 : decode cX5_isEnd 12 = .ok (.getfield 19, 3) := by decide +kernel
theorem dX5_isEnd_15 : decode cX5_isEnd 15 = .ok (.aload_n 0, 1) := by decide +kernel
theorem dX5_isEnd_16 : decode cX5_isEnd 16 = .ok (.getfield 52, 3) := by decide +kernel
theorem dX5_isEnd_19 : decode cX5_isEnd 19 = .ok (.iaload, 1) := by decide +kernel
theorem dX5_isEnd_20 : decode cX5_isEnd 20 = .ok (.bipush 47, 2) := by decide +kernel
theorem dX5_isEnd_22 : decode cX5_isEnd 22 = .ok (.if_icmp .ne 7, 3) := by decide +kernel
theorem dX5_isEnd_25 : decode cX5_isEnd 25 = .ok (.iconst 1, 1) := by decide +kernel
theorem dX5_isEnd_26 : decode cX5_isEnd 26 = .ok (.goto 4, 3) := by decide +kernel
theorem dX5_isEnd_29 : decode cX5_isEnd 29 = .ok (.iconst 0, 1) := by decide +kernel
theorem dX5_isEnd_30 : decode cX5_isEnd 30 = .ok (.ireturn, 1) := by decide +kernel
set_option maxRecDepth 20000 in
theorem ggX5_mayStand_X5_in : GoodIn wsX5_mayStand wsX5_in := goodIn_r _ [7] (by decide +kernel) (by decide +kernel)
set_option maxRecDepth 20000 in
theorem gX5_mayStand_X5_in : GoodIn wsX5_mayStand (va_wsS RX5 61 yX5_in wsX5_in) := goodIn_app (goodIn_of _ (by decide +kernel)) ggX5_mayStand_X5_in
theorem dX5_mayStand_0 : decode cX5_mayStand 0 = .ok (.aload_n 0, 1) := by decide +kernel
theorem dX5_mayStand_1 : decode cX5_mayStand 1 = .ok (.getfield 52, 3) := by decide +kernel
theorem dX5_mayStand_4 : decode cX5_mayStand 4 = .ok (.aload_n 0, 1) := by decide +kernel
theorem dX5_mayStand_5 : decode cX5_mayStand 5 = .ok (.getfield 58, 3) := by decide +kernel
theorem dX5_mayStand_8 : decode cX5_mayStand 8 = .ok (.isub, 1) := by decide +kernel
theorem dX5_mayStand_9 : decode cX5_mayStand 9 = .ok (.istore_n 1, 1) := by decide +kernel
theorem dX5_mayStand_10 : decode cX5_mayStand 10 = .ok (.aload_n 0, 1) := by decide +kernel
theorem dX5_mayStand_11 : decode cX5_mayStand 11 = .ok (.getfield 19, 3) := by decide +kernel
theorem dX5_mayStand_14 : decode cX5_mayStand 14 = .ok (.aload_n 0, 1) := by decide +kernel
theorem dX5_mayStand_15 : decode cX5_mayStand 15 = .ok (.getfield 52, 3) := by decide +kernel
theorem dX5_mayStand_18 : decode cX5_mayStand 18 = .ok (.iaload, 1) := by decide +kernel
theorem dX5_mayStand_19 : decode cX5_mayStand 19 = .ok (.bipush 32, 2) := by decide +kernel
theorem dX5_mayStand_21 : decode cX5_mayStand 21 = .ok (.if_icmp .ne 7, 3) := by decide +kernel
theorem dX5_mayStand_24 : decode cX5_mayStand 24 = .ok (.iconst 1, 1) := by decide +kernel
theorem dX5_mayStand_25 : decode cX5_mayStand 25 = .ok (.goto 4, 3) := by decide +kernel
theorem dX5_mayStand_28 : decode cX5_mayStand 28 = .ok (.iconst 0, 1) := by decide +kernel
theorem dX5_mayStand_29 : decode cX5_mayStand 29 = .ok (.istore_n 2, 1) := by decide +kernel
theorem dX5_mayStand_30 : decode cX5_mayStand 30 = .ok (.iload_n 1, 1) := by decide +kernel
theorem dX5_mayStand_31 : decode cX5_mayStand 31 = .ok (.bipush 14, 2) := by decide +kernel
theorem dX5_mayStand_33 : decode cX5_mayStand 33 = .ok (.if_icmp .ge 50, 3) := by decide +kernel
theorem dX5_mayStand_36 : decode cX5_mayStand 36 = .ok (.aload_n 0, 1) := by decide +kernel
theorem dX5_mayStand_37 : decode cX5_mayStand 37 = .ok (.getfield 19, 3) := by decide +kernel
theorem dX5_mayStand_40 : decode cX5_mayStand 40 = .ok (.aload_n 0, 1) := by decide +kernel
theorem dX5_mayStand_41 : decode cX5_mayStand 41 = .ok (.getfield 52, 3) := by decide +kernel
theorem dX5_mayStand_44 : decode cX5_mayStand 44 = .ok (.iaload, 1) := by decide +kernel
theorem dX5_mayStand_45 : decode cX5_mayStand 45 = .ok (.bipush 65, 2) := by decide +kernel
theorem dX5_mayStand_47 : decode cX5_mayStand 47 = .ok (.bipush 90, 2) := by decide +kernel
theorem dX5_mayStand_49 : decode cX5_mayStand 49 = .ok (.invokestatic 61, 3) := by decide +kernel
theorem dX5_mayStand_52 : decode cX5_mayStand 52 = .ok (.ifCond .ne 27, 3) := by decide +kernel
theorem dX5_mayStand_55 : decode cX5_mayStand 55 = .ok (.iload_n 2, 1) := by decide +kernel
theorem dX5_mayStand_56 : decode cX5_mayStand 56 = .ok (.ifCond .eq 27, 3) := by decide +kernel
theorem dX5_mayStand_59 : decode cX5_mayStand 59 = .ok (.iload_n 1, 1) := by decide +kernel
theorem dX5_mayStand_60 : decode cX5_mayStand 60 = .ok (.ifCond .le 23, 3) := by decide +kernel
theorem dX5_mayStand_63 : decode cX5_mayStand 63 = .ok (.aload_n 0, 1) := by decide +kernel
theorem dX5_mayStand_64 : decode cX5_mayStand 64 = .ok (.getfield 19, 3) := by decide +kernel
theorem dX5_mayStand_67 : decode cX5_mayStand 67 = .ok (.aload_n 0, 1) := by decide +kernel
theorem dX5_mayStand_68 : decode cX5_mayStand 68 = .ok (.getfield 52, 3) := by decide +kernel
theorem dX5_mayStand_71 : decode cX5_mayStand 71 = .ok (.iconst 1, 1) := by decide +kernel
theorem dX5_mayStand_72 : decode cX5_mayStand 72 = .ok (.isub, 1) := by decide +kernel
theorem dX5_mayStand_73 : decode cX5_mayStand 73 = .ok (.iaload, 1) := by decide +kernel
theorem dX5_mayStand_74 : decode cX5_mayStand 74 = .ok (.bipush 32, 2) := by decide +kernel
theorem dX5_mayStand_76 : decode cX5_mayStand 76 = .ok (.if_icmp .eq 7, 3) := by decide +kernel
theorem dX5_mayStand_79 : decode cX5_mayStand 79 = .ok (.iconst 1, 1) := by decide +kernel
theorem dX5_mayStand_80 : decode cX5_mayStand 80 = .ok (.goto 4, 3) := by decide +kernel
theorem dX5_mayStand_83 : decode cX5_mayStand 83 = .ok (.iconst 0, 1) := by decide +kernel
theorem dX5_mayStand_84 : decode cX5_mayStand 84 = .ok (.ireturn, 1) := by decide +kernel
set_option maxRecDepth 20000 in
theorem ggX5_isFormed_X5_isEnd : GoodIn wsX5_isFormed wsX5_isEnd := goodIn_r _ [8, 1, 9, 3, 23, 24, 25, 26, 27, 28, 29, 30, 31, 32, 33, 34, 35] (by decide +kernel) (by decide +kernel)
set_option maxRecDepth 20000 in
theorem gX5_isFormed_X5_isEnd : GoodIn wsX5_isFormed (wsV RX5 65 RX5 yX5_isEnd wsX5_isEnd) := goodIn_app (goodIn_of _ (by decide +kernel)) ggX5_isFormed_X5_isEnd
set_option maxRecDepth 20000 in
theorem ggX5_isFormed_X5_mayStand : GoodIn wsX5_isFormed wsX5_mayStand := goodIn_r _ [13, 1, 2, 3, 14, 15, 7, 16, 23, 24, 25, 26, 27, 28, 29, 30, 31, 32, 33, 34, 35] (by decide +kernel) (by decide +kernel)
set_option maxRecDepth 20000 in
theorem gX5_isFormed_X5_mayStand : GoodIn wsX5_isFormed (wsV RX5 69 RX5 yX5_mayStand wsX5_mayStand) := goodIn_app (goodIn_of _ (by decide +kernel)) ggX5_isFormed_X5_mayStand
set_option maxRecDepth 20000 in
theorem ggX5_isFormed_X5_fails : GoodIn wsX5_isFormed wsX5_fails := goodIn_r _ [20, 21, 22, 23, 24, 25, 26, 27, 28, 29, 30, 31, 32, 33, 34, 35] (by decide +kernel) (by decide +kernel)
set_option maxRecDepth 20000 in
theorem gX5_isFormed_X5_fails : GoodIn wsX5_isFormed (wsV RX5 72 RX5 yX5_fails wsX5_fails) := goodIn_app (goodIn_of _ (by decide +kernel)) ggX5_isFormed_X5_fails
theorem dX5_isFormed_0 : decode cX5_isFormed 0 = .ok (.aload_n 0, 1) := by decide +kernel
theorem dX5_isFormed_1 : decode cX5_isFormed 1 = .ok (.invokevirtual 65, 3) := by decide +kernel
theorem dX5_isFormed_4 : decode cX5_isFormed 4 = .ok (.ifCond .ne 38, 3) := by decide +kernel
theorem dX5_isFormed_7 : decode cX5_isFormed 7 = .ok (.aload_n 0, 1) := by decide +kernel
theorem dX5_isFormed_8 : decode cX5_isFormed 8 = .ok (.invokevirtual 69, 3) := by decide +kernel
theorem dX5_isFormed_11 : decode cX5_isFormed 11 = .ok (.ifCond .ne 18, 3) := by decide +kernel
theorem dX5_isFormed_14 : decode cX5_isFormed 14 = .ok (.aload_n 0, 1) := by decide +kernel
theorem dX5_isFormed_15 : decode cX5_isFormed 15 = .ok (.iconst 1, 1) := by decide +kernel
theorem dX5_isFormed_16 : decode cX5_isFormed 16 = .ok (.aload_n 0, 1) := by decide +kernel
theorem dX5_isFormed_17 : decode cX5_isFormed 17 = .ok (.getfield 52, 3) := by decide +kernel
theorem dX5_isFormed_20 : decode cX5_isFormed 20 = .ok (.aload_n 0, 1) := by decide +kernel
theorem dX5_isFormed_21 : decode cX5_isFormed 21 = .ok (.getfield 58, 3) := by decide +kernel
theorem dX5_isFormed_24 : decode cX5_isFormed 24 = .ok (.isub, 1) := by decide +kernel
theorem dX5_isFormed_25 : decode cX5_isFormed 25 = .ok (.invokevirtual 72, 3) := by decide +kernel
theorem dX5_isFormed_28 : decode cX5_isFormed 28 = .ok (.ireturn, 1) := by decide +kernel
theorem dX5_isFormed_29 : decode cX5_isFormed 29 = .ok (.aload_n 0, 1) := by decide +kernel
theorem dX5_isFormed_30 : decode cX5_isFormed 30 = .ok (.dup, 1) := by decide +kernel
theorem dX5_isFormed_31 : decode cX5_isFormed 31 = .ok (.getfield 52, 3) := by decide +kernel
theorem dX5_isFormed_34 : decode cX5_isFormed 34 = .ok (.iconst 1, 1) := by decide +kernel
theorem dX5_isFormed_35 : decode cX5_isFormed 35 = .ok (.iadd, 1) := by decide +kernel
theorem dX5_isFormed_36 : decode cX5_isFormed 36 = .ok (.putfield 52, 3) := by decide +kernel
theorem dX5_isFormed_39 : decode cX5_isFormed 39 = .ok (.goto (-39), 3) := by decide +kernel
theorem dX5_isFormed_42 : decode cX5_isFormed 42 = .ok (.aload_n 0, 1) := by decide +kernel
theorem dX5_isFormed_43 : decode cX5_isFormed 43 = .ok (.getfield 52, 3) := by decide +kernel
theorem dX5_isFormed_46 : decode cX5_isFormed 46 = .ok (.aload_n 0, 1) := by decide +kernel
theorem dX5_isFormed_47 : decode cX5_isFormed 47 = .ok (.getfield 58, 3) := by decide +kernel
theorem dX5_isFormed_50 : decode cX5_isFormed 50 = .ok (.isub, 1) := by decide +kernel
theorem dX5_isFormed_51 : decode cX5_isFormed 51 = .ok (.istore_n 1, 1) := by decide +kernel
theorem dX5_isFormed_52 : decode cX5_isFormed 52 = .ok (.iload_n 1, 1) := by decide +kernel
theorem dX5_isFormed_53 : decode cX5_isFormed 53 = .ok (.ifCond .ne 10, 3) := by decide +kernel
theorem dX5_isFormed_56 : decode cX5_isFormed 56 = .ok (.aload_n 0, 1) := by decide +kernel
theorem dX5_isFormed_57 : decode cX5_isFormed 57 = .ok (.iconst 1, 1) := by decide +kernel
theorem dX5_isFormed_58 : decode cX5_isFormed 58 = .ok (.iconst 0, 1) := by decide +kernel
theorem dX5_isFormed_59 : decode cX5_isFormed 59 = .ok (.invokevirtual 72, 3) := by decide +kernel
theorem dX5_isFormed_62 : decode cX5_isFormed 62 = .ok (.ireturn, 1) := by decide +kernel
theorem dX5_isFormed_63 : decode cX5_isFormed 63 = .ok (.aload_n 0, 1) := by decide +kernel
theorem dX5_isFormed_64 : decode cX5_isFormed 64 = .ok (.getfield 19, 3) := by decide +kernel
theorem dX5_isFormed_67 : decode cX5_isFormed 67 = .ok (.aload_n 0, 1) := by decide +kernel
theorem dX5_isFormed_68 : decode cX5_isFormed 68 = .ok (.getfield 52, 3) := by decide +kernel
theorem dX5_isFormed_71 : decode cX5_isFormed 71 = .ok (.iconst 1, 1) := by decide +kernel
theorem dX5_isFormed_72 : decode cX5_isFormed 72 = .ok (.isub, 1) := by decide +kernel
theorem dX5_isFormed_73 : decode cX5_isFormed 73 = .ok (.iaload, 1) := by decide +kernel
theorem dX5_isFormed_74 : decode cX5_isFormed 74 = .ok (.bipush 32, 2) := by decide +kernel
theorem dX5_isFormed_76 : decode cX5_isFormed 76 = .ok (.if_icmp .ne 14, 3) := by decide +kernel
theorem dX5_isFormed_79 : decode cX5_isFormed 79 = .ok (.aload_n 0, 1) := by decide +kernel
theorem dX5_isFormed_80 : decode cX5_isFormed 80 = .ok (.iconst 1, 1) := by decide +kernel
theorem dX5_isFormed_81 : decode cX5_isFormed 81 = .ok (.iload_n 1, 1) := by decide +kernel
theorem dX5_isFormed_82 : decode cX5_isFormed 82 = .ok (.iconst 1, 1) := by decide +kernel
theorem dX5_isFormed_83 : decode cX5_isFormed 83 = .ok (.isub, 1) := by decide +kernel
theorem dX5_isFormed_84 : decode cX5_isFormed 84 = .ok (.invokevirtual 72, 3) := by decide +kernel
theorem dX5_isFormed_87 : decode cX5_isFormed 87 = .ok (.ifCond .eq 7, 3) := by decide +kernel
theorem dX5_isFormed_90 : decode cX5_isFormed 90 = .ok (.iconst 1, 1) := by decide +kernel
theorem dX5_isFormed_91 : decode cX5_isFormed 91 = .ok (.goto 4, 3) := by decide +kernel
theorem dX5_isFormed_94 : decode cX5_isFormed 94 = .ok (.iconst 0, 1) := by decide +kernel
theorem dX5_isFormed_95 : decode cX5_isFormed 95 = .ok (.ireturn, 1) := by decide +kernel
set_option maxRecDepth 20000 in
theorem ggX5_adds_X5_isFormed : GoodIn wsX5_adds wsX5_isFormed := goodIn_r _ [9, 1, 2, 3, 10, 11, 12, 8, 13, 14, 15, 16, 17, 18, 19, 20, 21, 22, 23, 24, 25, 26, 27, 39, 40, 41, 42, 43, 44, 45, 46, 47, 48, 49, 50, 51] (by decide +kernel) (by decide +kernel)
set_option maxRecDepth 20000 in
theorem gX5_adds_X5_isFormed : GoodIn wsX5_adds (wsV RX5 76 RX5 yX5_isFormed wsX5_isFormed) := goodIn_app (goodIn_of _ (by decide +kernel)) ggX5_adds_X5_isFormed
set_option maxRecDepth 20000 in
theorem ggX5_adds_X5_wide : GoodIn wsX5_adds wsX5_wide := goodIn_r _ [30] (by decide +kernel) (by decide +kernel)
set_option maxRecDepth 20000 in
theorem gX5_adds_X5_wide : GoodIn wsX5_adds (va_wsS RX5 30 yX5_wide wsX5_wide) := goodIn_app (goodIn_of _ (by decide +kernel)) ggX5_adds_X5_wide
set_option maxRecDepth 20000 in
theorem ggX5_adds_X5_squeezed : GoodIn wsX5_adds wsX5_squeezed := goodIn_r _ [34, 4, 39, 40, 41, 42, 43, 44, 45, 46, 47, 48, 49, 50, 51] (by decide +kernel) (by decide +kernel)
set_option maxRecDepth 20000 in
theorem gX5_adds_X5_squeezed : GoodIn wsX5_adds (wsV RX5 79 RX5 yX5_squeezed wsX5_squeezed) := goodIn_app (goodIn_of _ (by decide +kernel)) ggX5_adds_X5_squeezed
set_option maxRecDepth 20000 in
theorem ggX5_adds_X5_fails : GoodIn wsX5_adds wsX5_fails := goodIn_r _ [25, 26, 27, 39, 40, 41, 42, 43, 44, 45, 46, 47, 48, 49, 50, 51] (by decide +kernel) (by decide +kernel)
set_option maxRecDepth 20000 in
theorem gX5_adds_X5_fails : GoodIn wsX5_adds (wsV RX5 72 RX5 yX5_fails wsX5_fails) := goodIn_app (goodIn_of _ (by decide +kernel)) ggX5_adds_X5_fails
set_option maxRecDepth 20000 in
theorem ggX5_adds_X5_sets : GoodIn wsX5_adds wsX5_sets := goodIn_r _ [38, 4, 39, 40, 41, 42, 43, 44, 45, 46, 47, 48, 49, 50, 51] (by decide +kernel) (by decide +kernel)
set_option maxRecDepth 20000 in
theorem gX5_adds_X5_sets : GoodIn wsX5_adds (wsV RX5 82 RX5 yX5_sets wsX5_sets) := goodIn_app (goodIn_of _ (by decide +kernel)) ggX5_adds_X5_sets
theorem dX5_adds_0 : decode cX5_adds 0 = .ok (.aload_n 0, 1) := by decide +kernel
theorem dX5_adds_1 : decode cX5_adds 1 = .ok (.aload_n 0, 1) := by decide +kernel
theorem dX5_adds_2 : decode cX5_adds 2 = .ok (.getfield 52, 3) := by decide +kernel
theorem dX5_adds_5 : decode cX5_adds 5 = .ok (.putfield 58, 3) := by decide +kernel
theorem dX5_adds_8 : decode cX5_adds 8 = .ok (.aload_n 0, 1) := by decide +kernel
theorem dX5_adds_9 : decode cX5_adds 9 = .ok (.invokevirtual 76, 3) := by decide +kernel
theorem dX5_adds_12 : decode cX5_adds 12 = .ok (.ifCond .ne 5, 3) := by decide +kernel
theorem dX5_adds_15 : decode cX5_adds 15 = .ok (.iconst 0, 1) := by decide +kernel
theorem dX5_adds_16 : decode cX5_adds 16 = .ok (.ireturn, 1) := by decide +kernel
theorem dX5_adds_17 : decode cX5_adds 17 = .ok (.aload_n 0, 1) := by decide +kernel
theorem dX5_adds_18 : decode cX5_adds 18 = .ok (.getfield 52, 3) := by decide +kernel
theorem dX5_adds_21 : decode cX5_adds 21 = .ok (.aload_n 0, 1) := by decide +kernel
theorem dX5_adds_22 : decode cX5_adds 22 = .ok (.getfield 58, 3) := by decide +kernel
theorem dX5_adds_25 : decode cX5_adds 25 = .ok (.isub, 1) := by decide +kernel
theorem dX5_adds_26 : decode cX5_adds 26 = .ok (.istore_n 1, 1) := by decide +kernel
theorem dX5_adds_27 : decode cX5_adds 27 = .ok (.iconst 0, 1) := by decide +kernel
theorem dX5_adds_28 : decode cX5_adds 28 = .ok (.istore_n 2, 1) := by decide +kernel
theorem dX5_adds_29 : decode cX5_adds 29 = .ok (.aload_n 0, 1) := by decide +kernel
theorem dX5_adds_30 : decode cX5_adds 30 = .ok (.getfield 58, 3) := by decide +kernel
theorem dX5_adds_33 : decode cX5_adds 33 = .ok (.istore_n 3, 1) := by decide +kernel
theorem dX5_adds_34 : decode cX5_adds 34 = .ok (.iload_n 3, 1) := by decide +kernel
theorem dX5_adds_35 : decode cX5_adds 35 = .ok (.aload_n 0, 1) := by decide +kernel
theorem dX5_adds_36 : decode cX5_adds 36 = .ok (.getfield 52, 3) := by decide +kernel
theorem dX5_adds_39 : decode cX5_adds 39 = .ok (.if_icmp .ge 21, 3) := by decide +kernel
theorem dX5_adds_42 : decode cX5_adds 42 = .ok (.iload_n 2, 1) := by decide +kernel
theorem dX5_adds_43 : decode cX5_adds 43 = .ok (.aload_n 0, 1) := by decide +kernel
theorem dX5_adds_44 : decode cX5_adds 44 = .ok (.getfield 19, 3) := by decide +kernel
theorem dX5_adds_47 : decode cX5_adds 47 = .ok (.iload_n 3, 1) := by decide +kernel
theorem dX5_adds_48 : decode cX5_adds 48 = .ok (.iaload, 1) := by decide +kernel
theorem dX5_adds_49 : decode cX5_adds 49 = .ok (.invokestatic 30, 3) := by decide +kernel
theorem dX5_adds_52 : decode cX5_adds 52 = .ok (.iadd, 1) := by decide +kernel
theorem dX5_adds_53 : decode cX5_adds 53 = .ok (.istore_n 2, 1) := by decide +kernel
theorem dX5_adds_54 : decode cX5_adds 54 = .ok (.iinc 3 1, 3) := by decide +kernel
theorem dX5_adds_57 : decode cX5_adds 57 = .ok (.goto (-23), 3) := by decide +kernel
theorem dX5_adds_60 : decode cX5_adds 60 = .ok (.aload_n 0, 1) := by decide +kernel
theorem dX5_adds_61 : decode cX5_adds 61 = .ok (.iload_n 2, 1) := by decide +kernel
theorem dX5_adds_62 : decode cX5_adds 62 = .ok (.invokevirtual 79, 3) := by decide +kernel
theorem dX5_adds_65 : decode cX5_adds 65 = .ok (.sipush 150, 3) := by decide +kernel
theorem dX5_adds_68 : decode cX5_adds 68 = .ok (.if_icmp .le 14, 3) := by decide +kernel
theorem dX5_adds_71 : decode cX5_adds 71 = .ok (.aload_n 0, 1) := by decide +kernel
theorem dX5_adds_72 : decode cX5_adds 72 = .ok (.iconst 2, 1) := by decide +kernel
theorem dX5_adds_73 : decode cX5_adds 73 = .ok (.aload_n 0, 1) := by decide +kernel
theorem dX5_adds_74 : decode cX5_adds 74 = .ok (.iload_n 2, 1) := by decide +kernel
theorem dX5_adds_75 : decode cX5_adds 75 = .ok (.invokevirtual 79, 3) := by decide +kernel
theorem dX5_adds_78 : decode cX5_adds 78 = .ok (.invokevirtual 72, 3) := by decide +kernel
theorem dX5_adds_81 : decode cX5_adds 81 = .ok (.ireturn, 1) := by decide +kernel
theorem dX5_adds_82 : decode cX5_adds 82 = .ok (.aload_n 0, 1) := by decide +kernel
theorem dX5_adds_83 : decode cX5_adds 83 = .ok (.getfield 7, 3) := by decide +kernel
theorem dX5_adds_86 : decode cX5_adds 86 = .ok (.iconst 0, 1) := by decide +kernel
theorem dX5_adds_87 : decode cX5_adds 87 = .ok (.iaload, 1) := by decide +kernel
theorem dX5_adds_88 : decode cX5_adds 88 = .ok (.istore_n 3, 1) := by decide +kernel
theorem dX5_adds_89 : decode cX5_adds 89 = .ok (.iload_n 3, 1) := by decide +kernel
theorem dX5_adds_90 : decode cX5_adds 90 = .ok (.bipush 20, 2) := by decide +kernel
theorem dX5_adds_92 : decode cX5_adds 92 = .ok (.if_icmp .ne 10, 3) := by decide +kernel
theorem dX5_adds_95 : decode cX5_adds 95 = .ok (.aload_n 0, 1) := by decide +kernel
theorem dX5_adds_96 : decode cX5_adds 96 = .ok (.iconst 3, 1) := by decide +kernel
theorem dX5_adds_97 : decode cX5_adds 97 = .ok (.iload_n 1, 1) := by decide +kernel
theorem dX5_adds_98 : decode cX5_adds 98 = .ok (.invokevirtual 72, 3) := by decide +kernel
theorem dX5_adds_101 : decode cX5_adds 101 = .ok (.ireturn, 1) := by decide +kernel
theorem dX5_adds_102 : decode cX5_adds 102 = .ok (.aload_n 0, 1) := by decide +kernel
theorem dX5_adds_103 : decode cX5_adds 103 = .ok (.iload_n 3, 1) := by decide +kernel
theorem dX5_adds_104 : decode cX5_adds 104 = .ok (.iconst 0, 1) := by decide +kernel
theorem dX5_adds_105 : decode cX5_adds 105 = .ok (.iload_n 1, 1) := by decide +kernel
theorem dX5_adds_106 : decode cX5_adds 106 = .ok (.invokevirtual 82, 3) := by decide +kernel
theorem dX5_adds_109 : decode cX5_adds 109 = .ok (.aload_n 0, 1) := by decide +kernel
theorem dX5_adds_110 : decode cX5_adds 110 = .ok (.iload_n 3, 1) := by decide +kernel
theorem dX5_adds_111 : decode cX5_adds 111 = .ok (.iconst 1, 1) := by decide +kernel
theorem dX5_adds_112 : decode cX5_adds 112 = .ok (.iconst 0, 1) := by decide +kernel
theorem dX5_adds_113 : decode cX5_adds 113 = .ok (.invokevirtual 82, 3) := by decide +kernel
theorem dX5_adds_116 : decode cX5_adds 116 = .ok (.aload_n 0, 1) := by decide +kernel
theorem dX5_adds_117 : decode cX5_adds 117 = .ok (.iload_n 3, 1) := by decide +kernel
theorem dX5_adds_118 : decode cX5_adds 118 = .ok (.iconst 2, 1) := by decide +kernel
theorem dX5_adds_119 : decode cX5_adds 119 = .ok (.iconst 0, 1) := by decide +kernel
theorem dX5_adds_120 : decode cX5_adds 120 = .ok (.invokevirtual 82, 3) := by decide +kernel
theorem dX5_adds_123 : decode cX5_adds 123 = .ok (.iconst 0, 1) := by decide +kernel
theorem dX5_adds_124 : decode cX5_adds 124 = .ok (.istore 4, 2) := by decide +kernel
theorem dX5_adds_126 : decode cX5_adds 126 = .ok (.iload 4, 2) := by decide +kernel
theorem dX5_adds_128 : decode cX5_adds 128 = .ok (.iload_n 1, 1) := by decide +kernel
theorem dX5_adds_129 : decode cX5_adds 129 = .ok (.if_icmp .ge 30, 3) := by decide +kernel
theorem dX5_adds_132 : decode cX5_adds 132 = .ok (.aload_n 0, 1) := by decide +kernel
theorem dX5_adds_133 : decode cX5_adds 133 = .ok (.iload_n 3, 1) := by decide +kernel
theorem dX5_adds_134 : decode cX5_adds 134 = .ok (.iconst 3, 1) := by decide +kernel
theorem dX5_adds_135 : decode cX5_adds 135 = .ok (.iload 4, 2) := by decide +kernel
theorem dX5_adds_137 : decode cX5_adds 137 = .ok (.iadd, 1) := by decide +kernel
theorem dX5_adds_138 : decode cX5_adds 138 = .ok (.aload_n 0, 1) := by decide +kernel
theorem dX5_adds_139 : decode cX5_adds 139 = .ok (.getfield 19, 3) := by decide +kernel
theorem dX5_adds_142 : decode cX5_adds 142 = .ok (.aload_n 0, 1) := by decide +kernel
theorem dX5_adds_143 : decode cX5_adds 143 = .ok (.getfield 58, 3) := by decide +kernel
theorem dX5_adds_146 : decode cX5_adds 146 = .ok (.iload 4, 2) := by decide +kernel
theorem dX5_adds_148 : decode cX5_adds 148 = .ok (.iadd, 1) := by decide +kernel
theorem dX5_adds_149 : decode cX5_adds 149 = .ok (.iaload, 1) := by decide +kernel
theorem dX5_adds_150 : decode cX5_adds 150 = .ok (.invokevirtual 82, 3) := by decide +kernel
theorem dX5_adds_153 : decode cX5_adds 153 = .ok (.iinc 4 1, 3) := by decide +kernel
theorem dX5_adds_156 : decode cX5_adds 156 = .ok (.goto (-30), 3) := by decide +kernel
theorem dX5_adds_159 : decode cX5_adds 159 = .ok (.aload_n 0, 1) := by decide +kernel
theorem dX5_adds_160 : decode cX5_adds 160 = .ok (.getfield 7, 3) := by decide +kernel
theorem dX5_adds_163 : decode cX5_adds 163 = .ok (.iconst 0, 1) := by decide +kernel
theorem dX5_adds_164 : decode cX5_adds 164 = .ok (.dup2, 1) := by decide +kernel
theorem dX5_adds_165 : decode cX5_adds 165 = .ok (.iaload, 1) := by decide +kernel
theorem dX5_adds_166 : decode cX5_adds 166 = .ok (.iconst 1, 1) := by decide +kernel
theorem dX5_adds_167 : decode cX5_adds 167 = .ok (.iadd, 1) := by decide +kernel
theorem dX5_adds_168 : decode cX5_adds 168 = .ok (.iastore, 1) := by decide +kernel
theorem dX5_adds_169 : decode cX5_adds 169 = .ok (.aload_n 0, 1) := by decide +kernel
theorem dX5_adds_170 : decode cX5_adds 170 = .ok (.getfield 7, 3) := by decide +kernel
theorem dX5_adds_173 : decode cX5_adds 173 = .ok (.iconst 1, 1) := by decide +kernel
theorem dX5_adds_174 : decode cX5_adds 174 = .ok (.aload_n 0, 1) := by decide +kernel
theorem dX5_adds_175 : decode cX5_adds 175 = .ok (.getfield 7, 3) := by decide +kernel
theorem dX5_adds_178 : decode cX5_adds 178 = .ok (.iconst 1, 1) := by decide +kernel
theorem dX5_adds_179 : decode cX5_adds 179 = .ok (.iaload, 1) := by decide +kernel
theorem dX5_adds_180 : decode cX5_adds 180 = .ok (.ifCond .ge 7, 3) := by decide +kernel
theorem dX5_adds_183 : decode cX5_adds 183 = .ok (.iconst 0, 1) := by decide +kernel
theorem dX5_adds_184 : decode cX5_adds 184 = .ok (.goto 9, 3) := by decide +kernel
theorem dX5_adds_187 : decode cX5_adds 187 = .ok (.aload_n 0, 1) := by decide +kernel
theorem dX5_adds_188 : decode cX5_adds 188 = .ok (.getfield 7, 3) := by decide +kernel
theorem dX5_adds_191 : decode cX5_adds 191 = .ok (.iconst 1, 1) := by decide +kernel
theorem dX5_adds_192 : decode cX5_adds 192 = .ok (.iaload, 1) := by decide +kernel
theorem dX5_adds_193 : decode cX5_adds 193 = .ok (.iastore, 1) := by decide +kernel
theorem dX5_adds_194 : decode cX5_adds 194 = .ok (.iconst 1, 1) := by decide +kernel
theorem dX5_adds_195 : decode cX5_adds 195 = .ok (.ireturn, 1) := by decide +kernel
set_option maxRecDepth 20000 in
theorem ggX5_addsAll_X5_adds : GoodIn wsX5_addsAll wsX5_adds := goodIn_r _ [8, 1, 9, 10, 11, 12, 13, 14, 7, 15, 16, 17, 18, 19, 3, 20, 21, 22, 23, 24, 25, 26, 27, 28, 29, 30, 31, 32, 33, 34, 35, 36, 37, 38, 39, 40, 41, 42, 43, 44, 45, 46, 47, 48, 49, 50, 51, 52, 53, 54, 55, 56] (by decide +kernel) (by decide +kernel)
set_option maxRecDepth 20000 in
theorem gX5_addsAll_X5_adds : GoodIn wsX5_addsAll (wsV RX5 89 RX5 yX5_adds wsX5_adds) := goodIn_app (goodIn_of _ (by decide +kernel)) ggX5_addsAll_X5_adds
theorem dX5_addsAll_0 : decode cX5_addsAll 0 = .ok (.aload_n 0, 1) := by decide +kernel
theorem dX5_addsAll_1 : decode cX5_addsAll 1 = .ok (.iconst 0, 1) := by decide +kernel
theorem dX5_addsAll_2 : decode cX5_addsAll 2 = .ok (.putfield 52, 3) := by decide +kernel
theorem dX5_addsAll_5 : decode cX5_addsAll 5 = .ok (.aload_n 0, 1) := by decide +kernel
theorem dX5_addsAll_6 : decode cX5_addsAll 6 = .ok (.iconst 1, 1) := by decide +kernel
theorem dX5_addsAll_7 : decode cX5_addsAll 7 = .ok (.putfield 86, 3) := by decide +kernel
theorem dX5_addsAll_10 : decode cX5_addsAll 10 = .ok (.aload_n 0, 1) := by decide +kernel
theorem dX5_addsAll_11 : decode cX5_addsAll 11 = .ok (.invokevirtual 89, 3) := by decide +kernel
theorem dX5_addsAll_14 : decode cX5_addsAll 14 = .ok (.istore_n 1, 1) := by decide +kernel
theorem dX5_addsAll_15 : decode cX5_addsAll 15 = .ok (.iload_n 1, 1) := by decide +kernel
theorem dX5_addsAll_16 : decode cX5_addsAll 16 = .ok (.ifCond .eq 42, 3) := by decide +kernel
theorem dX5_addsAll_19 : decode cX5_addsAll 19 = .ok (.aload_n 0, 1) := by decide +kernel
theorem dX5_addsAll_20 : decode cX5_addsAll 20 = .ok (.getfield 52, 3) := by decide +kernel
theorem dX5_addsAll_23 : decode cX5_addsAll 23 = .ok (.aload_n 0, 1) := by decide +kernel
theorem dX5_addsAll_24 : decode cX5_addsAll 24 = .ok (.getfield 55, 3) := by decide +kernel
theorem dX5_addsAll_27 : decode cX5_addsAll 27 = .ok (.if_icmp .ge 31, 3) := by decide +kernel
theorem dX5_addsAll_30 : decode cX5_addsAll 30 = .ok (.aload_n 0, 1) := by decide +kernel
theorem dX5_addsAll_31 : decode cX5_addsAll 31 = .ok (.dup, 1) := by decide +kernel
theorem dX5_addsAll_32 : decode cX5_addsAll 32 = .ok (.getfield 52, 3) := by decide +kernel
theorem dX5_addsAll_35 : decode cX5_addsAll 35 = .ok (.iconst 1, 1) := by decide +kernel
theorem dX5_addsAll_36 : decode cX5_addsAll 36 = .ok (.iadd, 1) := by decide +kernel
theorem dX5_addsAll_37 : decode cX5_addsAll 37 = .ok (.putfield 52, 3) := by decide +kernel
theorem dX5_addsAll_40 : decode cX5_addsAll 40 = .ok (.aload_n 0, 1) := by decide +kernel
theorem dX5_addsAll_41 : decode cX5_addsAll 41 = .ok (.dup, 1) := by decide +kernel
theorem dX5_addsAll_42 : decode cX5_addsAll 42 = .ok (.getfield 86, 3) := by decide +kernel
theorem dX5_addsAll_45 : decode cX5_addsAll 45 = .ok (.iconst 1, 1) := by decide +kernel
theorem dX5_addsAll_46 : decode cX5_addsAll 46 = .ok (.iadd, 1) := by decide +kernel
theorem dX5_addsAll_47 : decode cX5_addsAll 47 = .ok (.putfield 86, 3) := by decide +kernel
theorem dX5_addsAll_50 : decode cX5_addsAll 50 = .ok (.aload_n 0, 1) := by decide +kernel
theorem dX5_addsAll_51 : decode cX5_addsAll 51 = .ok (.invokevirtual 89, 3) := by decide +kernel
theorem dX5_addsAll_54 : decode cX5_addsAll 54 = .ok (.istore_n 1, 1) := by decide +kernel
theorem dX5_addsAll_55 : decode cX5_addsAll 55 = .ok (.goto (-40), 3) := by decide +kernel
theorem dX5_addsAll_58 : decode cX5_addsAll 58 = .ok (.iload_n 1, 1) := by decide +kernel
theorem dX5_addsAll_59 : decode cX5_addsAll 59 = .ok (.ireturn, 1) := by decide +kernel
set_option maxRecDepth 20000 in
theorem ggX5_fault_X5_in : GoodIn wsX5_fault wsX5_in := goodIn_r _ [11] (by decide +kernel) (by decide +kernel)
set_option maxRecDepth 20000 in
theorem gX5_fault_X5_in : GoodIn wsX5_fault (va_wsS RX5 61 yX5_in wsX5_in) := goodIn_app (goodIn_of _ (by decide +kernel)) ggX5_fault_X5_in
set_option maxRecDepth 20000 in
theorem ggX5_fault_X5_copies : GoodIn wsX5_fault wsX5_copies := goodIn_r _ [14] (by decide +kernel) (by decide +kernel)
set_option maxRecDepth 20000 in
theorem gX5_fault_X5_copies : GoodIn wsX5_fault (va_wsS RX5 93 yX5_copies wsX5_copies) := goodIn_app (goodIn_of _ (by decide +kernel)) ggX5_fault_X5_copies
set_option maxRecDepth 20000 in
theorem ggX5_fault_X5_addsAll : GoodIn wsX5_fault wsX5_addsAll := goodIn_r _ [18, 19, 20, 21, 22, 23, 24, 10, 25, 5, 26, 2, 27, 28, 29, 30, 31, 32, 33, 34, 35, 36, 37, 38, 8, 9, 11, 39, 40, 41, 42, 6, 7, 43, 44, 45, 46, 47, 48, 49, 50, 51, 52, 53, 54, 55, 56, 57, 58, 59, 60, 61, 62, 63, 64, 65, 66] (by decide +kernel) (by decide +kernel)
set_option maxRecDepth 20000 in
theorem gX5_fault_X5_addsAll : GoodIn wsX5_fault (wsV RX5 97 RX5 yX5_addsAll wsX5_addsAll) := goodIn_app (goodIn_of _ (by decide +kernel)) ggX5_fault_X5_addsAll
theorem dX5_fault_0 : decode cX5_fault 0 = .ok (.iload_n 1, 1) := by decide +kernel
theorem dX5_fault_1 : decode cX5_fault 1 = .ok (.iconst 0, 1) := by decide +kernel
theorem dX5_fault_2 : decode cX5_fault 2 = .ok (.iconst 2, 1) := by decide +kernel
theorem dX5_fault_3 : decode cX5_fault 3 = .ok (.invokestatic 61, 3) := by decide +kernel
theorem dX5_fault_6 : decode cX5_fault 6 = .ok (.ifCond .ne 6, 3) := by decide +kernel
theorem dX5_fault_9 : decode cX5_fault 9 = .ok (.ldc 92, 2) := by decide +kernel
theorem dX5_fault_11 : decode cX5_fault 11 = .ok (.ireturn, 1) := by decide +kernel
theorem dX5_fault_12 : decode cX5_fault 12 = .ok (.aload_n 0, 1) := by decide +kernel
theorem dX5_fault_13 : decode cX5_fault 13 = .ok (.getfield 7, 3) := by decide +kernel
theorem dX5_fault_16 : decode cX5_fault 16 = .ok (.aload_n 0, 1) := by decide +kernel
theorem dX5_fault_17 : decode cX5_fault 17 = .ok (.getfield 16, 3) := by decide +kernel
theorem dX5_fault_20 : decode cX5_fault 20 = .ok (.invokestatic 93, 3) := by decide +kernel
theorem dX5_fault_23 : decode cX5_fault 23 = .ok (.aload_n 0, 1) := by decide +kernel
theorem dX5_fault_24 : decode cX5_fault 24 = .ok (.invokevirtual 97, 3) := by decide +kernel
theorem dX5_fault_27 : decode cX5_fault 27 = .ok (.istore_n 2, 1) := by decide +kernel
theorem dX5_fault_28 : decode cX5_fault 28 = .ok (.aload_n 0, 1) := by decide +kernel
theorem dX5_fault_29 : decode cX5_fault 29 = .ok (.getfield 16, 3) := by decide +kernel
theorem dX5_fault_32 : decode cX5_fault 32 = .ok (.aload_n 0, 1) := by decide +kernel
theorem dX5_fault_33 : decode cX5_fault 33 = .ok (.getfield 7, 3) := by decide +kernel
theorem dX5_fault_36 : decode cX5_fault 36 = .ok (.invokestatic 93, 3) := by decide +kernel
theorem dX5_fault_39 : decode cX5_fault 39 = .ok (.iload_n 2, 1) := by decide +kernel
theorem dX5_fault_40 : decode cX5_fault 40 = .ok (.ifCond .eq 8, 3) := by decide +kernel
theorem dX5_fault_43 : decode cX5_fault 43 = .ok (.ldc 100, 2) := by decide +kernel
theorem dX5_fault_45 : decode cX5_fault 45 = .ok (.goto 30, 3) := by decide +kernel
theorem dX5_fault_48 : decode cX5_fault 48 = .ok (.iload_n 1, 1) := by decide +kernel
theorem dX5_fault_49 : decode cX5_fault 49 = .ok (.ifCond .ne 10, 3) := by decide +kernel
theorem dX5_fault_52 : decode cX5_fault 52 = .ok (.aload_n 0, 1) := by decide +kernel
theorem dX5_fault_53 : decode cX5_fault 53 = .ok (.getfield 58, 3) := by decide +kernel
theorem dX5_fault_56 : decode cX5_fault 56 = .ok (.goto 19, 3) := by decide +kernel
theorem dX5_fault_59 : decode cX5_fault 59 = .ok (.iload_n 1, 1) := by decide +kernel
theorem dX5_fault_60 : decode cX5_fault 60 = .ok (.iconst 1, 1) := by decide +kernel
theorem dX5_fault_61 : decode cX5_fault 61 = .ok (.if_icmp .ne 10, 3) := by decide +kernel
theorem dX5_fault_64 : decode cX5_fault 64 = .ok (.aload_n 0, 1) := by decide +kernel
theorem dX5_fault_65 : decode cX5_fault 65 = .ok (.getfield 46, 3) := by decide +kernel
theorem dX5_fault_68 : decode cX5_fault 68 = .ok (.goto 7, 3) := by decide +kernel
theorem dX5_fault_71 : decode cX5_fault 71 = .ok (.aload_n 0, 1) := by decide +kernel
theorem dX5_fault_72 : decode cX5_fault 72 = .ok (.getfield 49, 3) := by decide +kernel
theorem dX5_fault_75 : decode cX5_fault 75 = .ok (.ireturn, 1) := by decide +kernel
set_option maxRecDepth 20000 in
theorem ggX5_add_X5_copies : GoodIn wsX5_add wsX5_copies := goodIn_r _ [9] (by decide +kernel) (by decide +kernel)
set_option maxRecDepth 20000 in
theorem gX5_add_X5_copies : GoodIn wsX5_add (va_wsS RX5 93 yX5_copies wsX5_copies) := goodIn_app (goodIn_of _ (by decide +kernel)) ggX5_add_X5_copies
set_option maxRecDepth 20000 in
theorem ggX5_add_X5_addsAll : GoodIn wsX5_add wsX5_addsAll := goodIn_r _ [13, 14, 4, 15, 16, 17, 18, 8, 19, 20, 21, 1, 22, 23, 24, 25, 26, 27, 28, 29, 30, 31, 32, 33, 34, 35, 36, 37, 38, 39, 40, 41, 42, 43, 44, 45, 46, 47, 48, 49, 50, 51, 52, 53, 60, 61, 62, 63, 64, 65, 66, 67, 68, 69, 70, 71, 72] (by decide +kernel) (by decide +kernel)
set_option maxRecDepth 20000 in
theorem gX5_add_X5_addsAll : GoodIn wsX5_add (wsV RX5 97 RX5 yX5_addsAll wsX5_addsAll) := goodIn_app (goodIn_of _ (by decide +kernel)) ggX5_add_X5_addsAll
set_option maxRecDepth 20000 in
theorem ggX5_add_X5_changes : GoodIn wsX5_add wsX5_changes := goodIn_r _ [57, 58, 59, 1, 60, 61, 62, 63, 64, 65, 66, 67, 68, 69, 70, 71, 72] (by decide +kernel) (by decide +kernel)
set_option maxRecDepth 20000 in
theorem gX5_add_X5_changes : GoodIn wsX5_add (wsV RX5 102 RX5 yX5_changes wsX5_changes) := goodIn_app (goodIn_of _ (by decide +kernel)) ggX5_add_X5_changes
theorem dX5_add_0 : decode cX5_add 0 = .ok (.aload_n 0, 1) := by decide +kernel
theorem dX5_add_1 : decode cX5_add 1 = .ok (.getfield 7, 3) := by decide +kernel
theorem dX5_add_4 : decode cX5_add 4 = .ok (.aload_n 0, 1) := by decide +kernel
theorem dX5_add_5 : decode cX5_add 5 = .ok (.getfield 16, 3) := by decide +kernel
theorem dX5_add_8 : decode cX5_add 8 = .ok (.invokestatic 93, 3) := by decide +kernel
theorem dX5_add_11 : decode cX5_add 11 = .ok (.aload_n 0, 1) := by decide +kernel
theorem dX5_add_12 : decode cX5_add 12 = .ok (.invokevirtual 97, 3) := by decide +kernel
theorem dX5_add_15 : decode cX5_add 15 = .ok (.istore_n 1, 1) := by decide +kernel
theorem dX5_add_16 : decode cX5_add 16 = .ok (.aload_n 0, 1) := by decide +kernel
theorem dX5_add_17 : decode cX5_add 17 = .ok (.getfield 16, 3) := by decide +kernel
theorem dX5_add_20 : decode cX5_add 20 = .ok (.aload_n 0, 1) := by decide +kernel
theorem dX5_add_21 : decode cX5_add 21 = .ok (.getfield 7, 3) := by decide +kernel
theorem dX5_add_24 : decode cX5_add 24 = .ok (.invokestatic 93, 3) := by decide +kernel
theorem dX5_add_27 : decode cX5_add 27 = .ok (.iload_n 1, 1) := by decide +kernel
theorem dX5_add_28 : decode cX5_add 28 = .ok (.ifCond .ne 6, 3) := by decide +kernel
theorem dX5_add_31 : decode cX5_add 31 = .ok (.ldc 101, 2) := by decide +kernel
theorem dX5_add_33 : decode cX5_add 33 = .ok (.ireturn, 1) := by decide +kernel
theorem dX5_add_34 : decode cX5_add 34 = .ok (.aload_n 0, 1) := by decide +kernel
theorem dX5_add_35 : decode cX5_add 35 = .ok (.invokevirtual 102, 3) := by decide +kernel
theorem dX5_add_38 : decode cX5_add 38 = .ok (.aload_n 0, 1) := by decide +kernel
theorem dX5_add_39 : decode cX5_add 39 = .ok (.invokevirtual 97, 3) := by decide +kernel
theorem dX5_add_42 : decode cX5_add 42 = .ok (.ifCond .eq 10, 3) := by decide +kernel
theorem dX5_add_45 : decode cX5_add 45 = .ok (.aload_n 0, 1) := by decide +kernel
theorem dX5_add_46 : decode cX5_add 46 = .ok (.getfield 86, 3) := by decide +kernel
theorem dX5_add_49 : decode cX5_add 49 = .ok (.goto 5, 3) := by decide +kernel
theorem dX5_add_52 : decode cX5_add 52 = .ok (.ldc 100, 2) := by decide +kernel
theorem dX5_add_54 : decode cX5_add 54 = .ok (.ireturn, 1) := by decide +kernel
theorem dX5_without_0 : decode cX5_without 0 = .ok (.iload_n 0, 1) := by decide +kernel
theorem dX5_without_1 : decode cX5_without 1 = .ok (.iconst 1, 1) := by decide +kernel
theorem dX5_without_2 : decode cX5_without 2 = .ok (.iload_n 1, 1) := by decide +kernel
theorem dX5_without_3 : decode cX5_without 3 = .ok (.ishl, 1) := by decide +kernel
theorem dX5_without_4 : decode cX5_without 4 = .ok (.iconst 1, 1) := by decide +kernel
theorem dX5_without_5 : decode cX5_without 5 = .ok (.isub, 1) := by decide +kernel
theorem dX5_without_6 : decode cX5_without 6 = .ok (.iand, 1) := by decide +kernel
theorem dX5_without_7 : decode cX5_without 7 = .ok (.istore_n 2, 1) := by decide +kernel
theorem dX5_without_8 : decode cX5_without 8 = .ok (.iload_n 2, 1) := by decide +kernel
theorem dX5_without_9 : decode cX5_without 9 = .ok (.iload_n 0, 1) := by decide +kernel
theorem dX5_without_10 : decode cX5_without 10 = .ok (.iload_n 1, 1) := by decide +kernel
theorem dX5_without_11 : decode cX5_without 11 = .ok (.iconst 1, 1) := by decide +kernel
theorem dX5_without_12 : decode cX5_without 12 = .ok (.iadd, 1) := by decide +kernel
theorem dX5_without_13 : decode cX5_without 13 = .ok (.ishr, 1) := by decide +kernel
theorem dX5_without_14 : decode cX5_without 14 = .ok (.iload_n 1, 1) := by decide +kernel
theorem dX5_without_15 : decode cX5_without 15 = .ok (.ishl, 1) := by decide +kernel
theorem dX5_without_16 : decode cX5_without 16 = .ok (.ior, 1) := by decide +kernel
theorem dX5_without_17 : decode cX5_without 17 = .ok (.ireturn, 1) := by decide +kernel
set_option maxRecDepth 20000 in
theorem ggX5_cut_X5_isRow : GoodIn wsX5_cut wsX5_isRow := goodIn_r _ [7, 2, 21, 22, 23, 24, 25, 26, 27, 28, 29, 30, 31, 32, 33] (by decide +kernel) (by decide +kernel)
set_option maxRecDepth 20000 in
theorem gX5_cut_X5_isRow : GoodIn wsX5_cut (wsV RX5 105 RX5 yX5_isRow wsX5_isRow) := goodIn_app (goodIn_of _ (by decide +kernel)) ggX5_cut_X5_isRow
set_option maxRecDepth 20000 in
theorem ggX5_cut_X5_changes : GoodIn wsX5_cut wsX5_changes := goodIn_r _ [11, 12, 13, 2, 21, 22, 23, 24, 25, 26, 27, 28, 29, 30, 31, 32, 33] (by decide +kernel) (by decide +kernel)
set_option maxRecDepth 20000 in
theorem gX5_cut_X5_changes : GoodIn wsX5_cut (wsV RX5 102 RX5 yX5_changes wsX5_changes) := goodIn_app (goodIn_of _ (by decide +kernel)) ggX5_cut_X5_changes
set_option maxRecDepth 20000 in
theorem ggX5_cut_X5_ofRoute : GoodIn wsX5_cut wsX5_ofRoute := goodIn_r _ [17, 2, 21, 22, 23, 24, 25, 26, 27, 28, 29, 30, 31, 32, 33] (by decide +kernel) (by decide +kernel)
set_option maxRecDepth 20000 in
theorem gX5_cut_X5_ofRoute : GoodIn wsX5_cut (wsV RX5 109 RX5 yX5_ofRoute wsX5_ofRoute) := goodIn_app (goodIn_of _ (by decide +kernel)) ggX5_cut_X5_ofRoute
set_option maxRecDepth 20000 in
theorem ggX5_cut_X5_without : GoodIn wsX5_cut wsX5_without := goodIn_r _ [20] (by decide +kernel) (by decide +kernel)
set_option maxRecDepth 20000 in
theorem gX5_cut_X5_without : GoodIn wsX5_cut (va_wsS RX5 112 yX5_without wsX5_without) := goodIn_app (goodIn_of _ (by decide +kernel)) ggX5_cut_X5_without
theorem dX5_cut_0 : decode cX5_cut 0 = .ok (.aload_n 0, 1) := by decide +kernel
theorem dX5_cut_1 : decode cX5_cut 1 = .ok (.iload_n 1, 1) := by decide +kernel
theorem dX5_cut_2 : decode cX5_cut 2 = .ok (.invokevirtual 105, 3) := by decide +kernel
theorem dX5_cut_5 : decode cX5_cut 5 = .ok (.ifCond .ne 6, 3) := by decide +kernel
theorem dX5_cut_8 : decode cX5_cut 8 = .ok (.ldc 92, 2) := by decide +kernel
theorem dX5_cut_10 : decode cX5_cut 10 = .ok (.ireturn, 1) := by decide +kernel
theorem dX5_cut_11 : decode cX5_cut 11 = .ok (.aload_n 0, 1) := by decide +kernel
theorem dX5_cut_12 : decode cX5_cut 12 = .ok (.invokevirtual 102, 3) := by decide +kernel
theorem dX5_cut_15 : decode cX5_cut 15 = .ok (.aload_n 0, 1) := by decide +kernel
theorem dX5_cut_16 : decode cX5_cut 16 = .ok (.getfield 7, 3) := by decide +kernel
theorem dX5_cut_19 : decode cX5_cut 19 = .ok (.iconst 0, 1) := by decide +kernel
theorem dX5_cut_20 : decode cX5_cut 20 = .ok (.dup2, 1) := by decide +kernel
theorem dX5_cut_21 : decode cX5_cut 21 = .ok (.iaload, 1) := by decide +kernel
theorem dX5_cut_22 : decode cX5_cut 22 = .ok (.iconst 1, 1) := by decide +kernel
theorem dX5_cut_23 : decode cX5_cut 23 = .ok (.isub, 1) := by decide +kernel
theorem dX5_cut_24 : decode cX5_cut 24 = .ok (.iastore, 1) := by decide +kernel
theorem dX5_cut_25 : decode cX5_cut 25 = .ok (.bipush 11, 2) := by decide +kernel
theorem dX5_cut_27 : decode cX5_cut 27 = .ok (.bipush 17, 2) := by decide +kernel
theorem dX5_cut_29 : decode cX5_cut 29 = .ok (.iload_n 1, 1) := by decide +kernel
theorem dX5_cut_30 : decode cX5_cut 30 = .ok (.imul, 1) := by decide +kernel
theorem dX5_cut_31 : decode cX5_cut 31 = .ok (.iadd, 1) := by decide +kernel
theorem dX5_cut_32 : decode cX5_cut 32 = .ok (.istore_n 2, 1) := by decide +kernel
theorem dX5_cut_33 : decode cX5_cut 33 = .ok (.iload_n 2, 1) := by decide +kernel
theorem dX5_cut_34 : decode cX5_cut 34 = .ok (.bipush 11, 2) := by decide +kernel
theorem dX5_cut_36 : decode cX5_cut 36 = .ok (.bipush 17, 2) := by decide +kernel
theorem dX5_cut_38 : decode cX5_cut 38 = .ok (.aload_n 0, 1) := by decide +kernel
theorem dX5_cut_39 : decode cX5_cut 39 = .ok (.getfield 7, 3) := by decide +kernel
theorem dX5_cut_42 : decode cX5_cut 42 = .ok (.iconst 0, 1) := by decide +kernel
theorem dX5_cut_43 : decode cX5_cut 43 = .ok (.iaload, 1) := by decide +kernel
theorem dX5_cut_44 : decode cX5_cut 44 = .ok (.imul, 1) := by decide +kernel
theorem dX5_cut_45 : decode cX5_cut 45 = .ok (.iadd, 1) := by decide +kernel
theorem dX5_cut_46 : decode cX5_cut 46 = .ok (.if_icmp .ge 24, 3) := by decide +kernel
theorem dX5_cut_49 : decode cX5_cut 49 = .ok (.aload_n 0, 1) := by decide +kernel
theorem dX5_cut_50 : decode cX5_cut 50 = .ok (.getfield 7, 3) := by decide +kernel
theorem dX5_cut_53 : decode cX5_cut 53 = .ok (.iload_n 2, 1) := by decide +kernel
theorem dX5_cut_54 : decode cX5_cut 54 = .ok (.aload_n 0, 1) := by decide +kernel
theorem dX5_cut_55 : decode cX5_cut 55 = .ok (.getfield 7, 3) := by decide +kernel
theorem dX5_cut_58 : decode cX5_cut 58 = .ok (.iload_n 2, 1) := by decide +kernel
theorem dX5_cut_59 : decode cX5_cut 59 = .ok (.bipush 17, 2) := by decide +kernel
theorem dX5_cut_61 : decode cX5_cut 61 = .ok (.iadd, 1) := by decide +kernel
theorem dX5_cut_62 : decode cX5_cut 62 = .ok (.iaload, 1) := by decide +kernel
theorem dX5_cut_63 : decode cX5_cut 63 = .ok (.iastore, 1) := by decide +kernel
theorem dX5_cut_64 : decode cX5_cut 64 = .ok (.iinc 2 1, 3) := by decide +kernel
theorem dX5_cut_67 : decode cX5_cut 67 = .ok (.goto (-34), 3) := by decide +kernel
theorem dX5_cut_70 : decode cX5_cut 70 = .ok (.iconst 0, 1) := by decide +kernel
theorem dX5_cut_71 : decode cX5_cut 71 = .ok (.istore_n 2, 1) := by decide +kernel
theorem dX5_cut_72 : decode cX5_cut 72 = .ok (.iload_n 2, 1) := by decide +kernel
theorem dX5_cut_73 : decode cX5_cut 73 = .ok (.aload_n 0, 1) := by decide +kernel
theorem dX5_cut_74 : decode cX5_cut 74 = .ok (.getfield 7, 3) := by decide +kernel
theorem dX5_cut_77 : decode cX5_cut 77 = .ok (.iconst 2, 1) := by decide +kernel
theorem dX5_cut_78 : decode cX5_cut 78 = .ok (.iaload, 1) := by decide +kernel
theorem dX5_cut_79 : decode cX5_cut 79 = .ok (.if_icmp .ge 33, 3) := by decide +kernel
theorem dX5_cut_82 : decode cX5_cut 82 = .ok (.aload_n 0, 1) := by decide +kernel
theorem dX5_cut_83 : decode cX5_cut 83 = .ok (.getfield 7, 3) := by decide +kernel
theorem dX5_cut_86 : decode cX5_cut 86 = .ok (.sipush 351, 3) := by decide +kernel
theorem dX5_cut_89 : decode cX5_cut 89 = .ok (.iconst 3, 1) := by decide +kernel
theorem dX5_cut_90 : decode cX5_cut 90 = .ok (.iload_n 2, 1) := by decide +kernel
theorem dX5_cut_91 : decode cX5_cut 91 = .ok (.imul, 1) := by decide +kernel
theorem dX5_cut_92 : decode cX5_cut 92 = .ok (.iadd, 1) := by decide +kernel
theorem dX5_cut_93 : decode cX5_cut 93 = .ok (.iconst 0, 1) := by decide +kernel
theorem dX5_cut_94 : decode cX5_cut 94 = .ok (.iadd, 1) := by decide +kernel
theorem dX5_cut_95 : decode cX5_cut 95 = .ok (.aload_n 0, 1) := by decide +kernel
theorem dX5_cut_96 : decode cX5_cut 96 = .ok (.iload_n 2, 1) := by decide +kernel
theorem dX5_cut_97 : decode cX5_cut 97 = .ok (.iconst 0, 1) := by decide +kernel
theorem dX5_cut_98 : decode cX5_cut 98 = .ok (.invokevirtual 109, 3) := by decide +kernel
theorem dX5_cut_101 : decode cX5_cut 101 = .ok (.iload_n 1, 1) := by decide +kernel
theorem dX5_cut_102 : decode cX5_cut 102 = .ok (.invokestatic 112, 3) := by decide +kernel
theorem dX5_cut_105 : decode cX5_cut 105 = .ok (.iastore, 1) := by decide +kernel
theorem dX5_cut_106 : decode cX5_cut 106 = .ok (.iinc 2 1, 3) := by decide +kernel
theorem dX5_cut_109 : decode cX5_cut 109 = .ok (.goto (-37), 3) := by decide +kernel
theorem dX5_cut_112 : decode cX5_cut 112 = .ok (.aload_n 0, 1) := by decide +kernel
theorem dX5_cut_113 : decode cX5_cut 113 = .ok (.getfield 7, 3) := by decide +kernel
theorem dX5_cut_116 : decode cX5_cut 116 = .ok (.iconst 1, 1) := by decide +kernel
theorem dX5_cut_117 : decode cX5_cut 117 = .ok (.dup2, 1) := by decide +kernel
theorem dX5_cut_118 : decode cX5_cut 118 = .ok (.iaload, 1) := by decide +kernel
theorem dX5_cut_119 : decode cX5_cut 119 = .ok (.aload_n 0, 1) := by decide +kernel
theorem dX5_cut_120 : decode cX5_cut 120 = .ok (.getfield 7, 3) := by decide +kernel
theorem dX5_cut_123 : decode cX5_cut 123 = .ok (.iconst 1, 1) := by decide +kernel
theorem dX5_cut_124 : decode cX5_cut 124 = .ok (.iaload, 1) := by decide +kernel
theorem dX5_cut_125 : decode cX5_cut 125 = .ok (.iload_n 1, 1) := by decide +kernel
theorem dX5_cut_126 : decode cX5_cut 126 = .ok (.if_icmp .gt 18, 3) := by decide +kernel
theorem dX5_cut_129 : decode cX5_cut 129 = .ok (.aload_n 0, 1) := by decide +kernel
theorem dX5_cut_130 : decode cX5_cut 130 = .ok (.getfield 7, 3) := by decide +kernel
theorem dX5_cut_133 : decode cX5_cut 133 = .ok (.iconst 1, 1) := by decide +kernel
theorem dX5_cut_134 : decode cX5_cut 134 = .ok (.iaload, 1) := by decide +kernel
theorem dX5_cut_135 : decode cX5_cut 135 = .ok (.aload_n 0, 1) := by decide +kernel
theorem dX5_cut_136 : decode cX5_cut 136 = .ok (.getfield 7, 3) := by decide +kernel
theorem dX5_cut_139 : decode cX5_cut 139 = .ok (.iconst 0, 1) := by decide +kernel
theorem dX5_cut_140 : decode cX5_cut 140 = .ok (.iaload, 1) := by decide +kernel
theorem dX5_cut_141 : decode cX5_cut 141 = .ok (.if_icmp .ne 7, 3) := by decide +kernel
theorem dX5_cut_144 : decode cX5_cut 144 = .ok (.iconst 1, 1) := by decide +kernel
theorem dX5_cut_145 : decode cX5_cut 145 = .ok (.goto 4, 3) := by decide +kernel
theorem dX5_cut_148 : decode cX5_cut 148 = .ok (.iconst 0, 1) := by decide +kernel
theorem dX5_cut_149 : decode cX5_cut 149 = .ok (.isub, 1) := by decide +kernel
theorem dX5_cut_150 : decode cX5_cut 150 = .ok (.iastore, 1) := by decide +kernel
theorem dX5_cut_151 : decode cX5_cut 151 = .ok (.aload_n 0, 1) := by decide +kernel
theorem dX5_cut_152 : decode cX5_cut 152 = .ok (.getfield 7, 3) := by decide +kernel
theorem dX5_cut_155 : decode cX5_cut 155 = .ok (.iconst 1, 1) := by decide +kernel
theorem dX5_cut_156 : decode cX5_cut 156 = .ok (.iaload, 1) := by decide +kernel
theorem dX5_cut_157 : decode cX5_cut 157 = .ok (.ireturn, 1) := by decide +kernel
set_option maxRecDepth 20000 in
theorem ggX5_swap_X5_isRow : GoodIn wsX5_swap wsX5_isRow := goodIn_r _ [7, 2, 26, 27, 28, 29, 30, 31, 32, 33, 34, 35, 36, 37, 38] (by decide +kernel) (by decide +kernel)
set_option maxRecDepth 20000 in
theorem gX5_swap_X5_isRow : GoodIn wsX5_swap (wsV RX5 105 RX5 yX5_isRow wsX5_isRow) := goodIn_app (goodIn_of _ (by decide +kernel)) ggX5_swap_X5_isRow
set_option maxRecDepth 20000 in
theorem ggX5_swap_X5_changes : GoodIn wsX5_swap wsX5_changes := goodIn_r _ [11, 12, 13, 2, 26, 27, 28, 29, 30, 31, 32, 33, 34, 35, 36, 37, 38] (by decide +kernel) (by decide +kernel)
set_option maxRecDepth 20000 in
theorem gX5_swap_X5_changes : GoodIn wsX5_swap (wsV RX5 102 RX5 yX5_changes wsX5_changes) := goodIn_app (goodIn_of _ (by decide +kernel)) ggX5_swap_X5_changes
set_option maxRecDepth 20000 in
theorem ggX5_swap_X5_of : GoodIn wsX5_swap wsX5_of := goodIn_r _ [17, 2, 26, 27, 28, 29, 30, 31, 32, 33, 34, 35, 36, 37, 38] (by decide +kernel) (by decide +kernel)
set_option maxRecDepth 20000 in
theorem gX5_swap_X5_of : GoodIn wsX5_swap (wsV RX5 26 RX5 yX5_of wsX5_of) := goodIn_app (goodIn_of _ (by decide +kernel)) ggX5_swap_X5_of
set_option maxRecDepth 20000 in
theorem ggX5_swap_X5_sets : GoodIn wsX5_swap wsX5_sets := goodIn_r _ [21, 2, 26, 27, 28, 29, 30, 31, 32, 33, 34, 35, 36, 37, 38] (by decide +kernel) (by decide +kernel)
set_option maxRecDepth 20000 in
theorem gX5_swap_X5_sets : GoodIn wsX5_swap (wsV RX5 82 RX5 yX5_sets wsX5_sets) := goodIn_app (goodIn_of _ (by decide +kernel)) ggX5_swap_X5_sets
set_option maxRecDepth 20000 in
theorem ggX5_swap_X5_ofRoute : GoodIn wsX5_swap wsX5_ofRoute := goodIn_r _ [25, 2, 26, 27, 28, 29, 30, 31, 32, 33, 34, 35, 36, 37, 38] (by decide +kernel) (by decide +kernel)
set_option maxRecDepth 20000 in
theorem gX5_swap_X5_ofRoute : GoodIn wsX5_swap (wsV RX5 109 RX5 yX5_ofRoute wsX5_ofRoute) := goodIn_app (goodIn_of _ (by decide +kernel)) ggX5_swap_X5_ofRoute
theorem dX5_swap_0 : decode cX5_swap 0 = .ok (.aload_n 0, 1) := by decide +kernel
theorem dX5_swap_1 : decode cX5_swap 1 = .ok (.iload_n 1, 1) := by decide +kernel
theorem dX5_swap_2 : decode cX5_swap 2 = .ok (.invokevirtual 105, 3) := by decide +kernel
theorem dX5_swap_5 : decode cX5_swap 5 = .ok (.ifCond .eq 16, 3) := by decide +kernel
theorem dX5_swap_8 : decode cX5_swap 8 = .ok (.aload_n 0, 1) := by decide +kernel
theorem dX5_swap_9 : decode cX5_swap 9 = .ok (.iload_n 2, 1) := by decide +kernel
theorem dX5_swap_10 : decode cX5_swap 10 = .ok (.invokevirtual 105, 3) := by decide +kernel
theorem dX5_swap_13 : decode cX5_swap 13 = .ok (.ifCond .eq 8, 3) := by decide +kernel
theorem dX5_swap_16 : decode cX5_swap 16 = .ok (.iload_n 1, 1) := by decide +kernel
theorem dX5_swap_17 : decode cX5_swap 17 = .ok (.iload_n 2, 1) := by decide +kernel
theorem dX5_swap_18 : decode cX5_swap 18 = .ok (.if_icmp .ne 6, 3) := by decide +kernel
theorem dX5_swap_21 : decode cX5_swap 21 = .ok (.ldc 92, 2) := by decide +kernel
theorem dX5_swap_23 : decode cX5_swap 23 = .ok (.ireturn, 1) := by decide +kernel
theorem dX5_swap_24 : decode cX5_swap 24 = .ok (.aload_n 0, 1) := by decide +kernel
theorem dX5_swap_25 : decode cX5_swap 25 = .ok (.invokevirtual 102, 3) := by decide +kernel
theorem dX5_swap_28 : decode cX5_swap 28 = .ok (.iconst 0, 1) := by decide +kernel
theorem dX5_swap_29 : decode cX5_swap 29 = .ok (.istore_n 3, 1) := by decide +kernel
theorem dX5_swap_30 : decode cX5_swap 30 = .ok (.iload_n 3, 1) := by decide +kernel
theorem dX5_swap_31 : decode cX5_swap 31 = .ok (.bipush 17, 2) := by decide +kernel
theorem dX5_swap_33 : decode cX5_swap 33 = .ok (.if_icmp .ge 37, 3) := by decide +kernel
theorem dX5_swap_36 : decode cX5_swap 36 = .ok (.aload_n 0, 1) := by decide +kernel
theorem dX5_swap_37 : decode cX5_swap 37 = .ok (.iload_n 1, 1) := by decide +kernel
theorem dX5_swap_38 : decode cX5_swap 38 = .ok (.iload_n 3, 1) := by decide +kernel
theorem dX5_swap_39 : decode cX5_swap 39 = .ok (.invokevirtual 26, 3) := by decide +kernel
theorem dX5_swap_42 : decode cX5_swap 42 = .ok (.istore 4, 2) := by decide +kernel
theorem dX5_swap_44 : decode cX5_swap 44 = .ok (.aload_n 0, 1) := by decide +kernel
theorem dX5_swap_45 : decode cX5_swap 45 = .ok (.iload_n 1, 1) := by decide +kernel
theorem dX5_swap_46 : decode cX5_swap 46 = .ok (.iload_n 3, 1) := by decide +kernel
theorem dX5_swap_47 : decode cX5_swap 47 = .ok (.aload_n 0, 1) := by decide +kernel
theorem dX5_swap_48 : decode cX5_swap 48 = .ok (.iload_n 2, 1) := by decide +kernel
theorem dX5_swap_49 : decode cX5_swap 49 = .ok (.iload_n 3, 1) := by decide +kernel
theorem dX5_swap_50 : decode cX5_swap 50 = .ok (.invokevirtual 26, 3) := by decide +kernel
theorem dX5_swap_53 : decode cX5_swap 53 = .ok (.invokevirtual 82, 3) := by decide +kernel
theorem dX5_swap_56 : decode cX5_swap 56 = .ok (.aload_n 0, 1) := by decide +kernel
theorem dX5_swap_57 : decode cX5_swap 57 = .ok (.iload_n 2, 1) := by decide +kernel
theorem dX5_swap_58 : decode cX5_swap 58 = .ok (.iload_n 3, 1) := by decide +kernel
theorem dX5_swap_59 : decode cX5_swap 59 = .ok (.iload 4, 2) := by decide +kernel
theorem dX5_swap_61 : decode cX5_swap 61 = .ok (.invokevirtual 82, 3) := by decide +kernel
theorem dX5_swap_64 : decode cX5_swap 64 = .ok (.iinc 3 1, 3) := by decide +kernel
theorem dX5_swap_67 : decode cX5_swap 67 = .ok (.goto (-37), 3) := by decide +kernel
theorem dX5_swap_70 : decode cX5_swap 70 = .ok (.iconst 0, 1) := by decide +kernel
theorem dX5_swap_71 : decode cX5_swap 71 = .ok (.istore_n 3, 1) := by decide +kernel
theorem dX5_swap_72 : decode cX5_swap 72 = .ok (.iload_n 3, 1) := by decide +kernel
theorem dX5_swap_73 : decode cX5_swap 73 = .ok (.aload_n 0, 1) := by decide +kernel
theorem dX5_swap_74 : decode cX5_swap 74 = .ok (.getfield 7, 3) := by decide +kernel
theorem dX5_swap_77 : decode cX5_swap 77 = .ok (.iconst 2, 1) := by decide +kernel
theorem dX5_swap_78 : decode cX5_swap 78 = .ok (.iaload, 1) := by decide +kernel
theorem dX5_swap_79 : decode cX5_swap 79 = .ok (.if_icmp .ge 73, 3) := by decide +kernel
theorem dX5_swap_82 : decode cX5_swap 82 = .ok (.aload_n 0, 1) := by decide +kernel
theorem dX5_swap_83 : decode cX5_swap 83 = .ok (.iload_n 3, 1) := by decide +kernel
theorem dX5_swap_84 : decode cX5_swap 84 = .ok (.iconst 0, 1) := by decide +kernel
theorem dX5_swap_85 : decode cX5_swap 85 = .ok (.invokevirtual 109, 3) := by decide +kernel
theorem dX5_swap_88 : decode cX5_swap 88 = .ok (.istore 4, 2) := by decide +kernel
theorem dX5_swap_90 : decode cX5_swap 90 = .ok (.iload 4, 2) := by decide +kernel
theorem dX5_swap_92 : decode cX5_swap 92 = .ok (.iload_n 1, 1) := by decide +kernel
theorem dX5_swap_93 : decode cX5_swap 93 = .ok (.ishr, 1) := by decide +kernel
theorem dX5_swap_94 : decode cX5_swap 94 = .ok (.iconst 1, 1) := by decide +kernel
theorem dX5_swap_95 : decode cX5_swap 95 = .ok (.iand, 1) := by decide +kernel
theorem dX5_swap_96 : decode cX5_swap 96 = .ok (.iload 4, 2) := by decide +kernel
theorem dX5_swap_98 : decode cX5_swap 98 = .ok (.iload_n 2, 1) := by decide +kernel
theorem dX5_swap_99 : decode cX5_swap 99 = .ok (.ishr, 1) := by decide +kernel
theorem dX5_swap_100 : decode cX5_swap 100 = .ok (.iconst 1, 1) := by decide +kernel
theorem dX5_swap_101 : decode cX5_swap 101 = .ok (.iand, 1) := by decide +kernel
theorem dX5_swap_102 : decode cX5_swap 102 = .ok (.if_icmp .eq 7, 3) := by decide +kernel
theorem dX5_swap_105 : decode cX5_swap 105 = .ok (.iconst 1, 1) := by decide +kernel
theorem dX5_swap_106 : decode cX5_swap 106 = .ok (.goto 4, 3) := by decide +kernel
theorem dX5_swap_109 : decode cX5_swap 109 = .ok (.iconst 0, 1) := by decide +kernel
theorem dX5_swap_110 : decode cX5_swap 110 = .ok (.istore 5, 2) := by decide +kernel
theorem dX5_swap_112 : decode cX5_swap 112 = .ok (.aload_n 0, 1) := by decide +kernel
theorem dX5_swap_113 : decode cX5_swap 113 = .ok (.getfield 7, 3) := by decide +kernel
theorem dX5_swap_116 : decode cX5_swap 116 = .ok (.sipush 351, 3) := by decide +kernel
theorem dX5_swap_119 : decode cX5_swap 119 = .ok (.iconst 3, 1) := by decide +kernel
theorem dX5_swap_120 : decode cX5_swap 120 = .ok (.iload_n 3, 1) := by decide +kernel
theorem dX5_swap_121 : decode cX5_swap 121 = .ok (.imul, 1) := by decide +kernel
theorem dX5_swap_122 : decode cX5_swap 122 = .ok (.iadd, 1) := by decide +kernel
theorem dX5_swap_123 : decode cX5_swap 123 = .ok (.iconst 0, 1) := by decide +kernel
theorem dX5_swap_124 : decode cX5_swap 124 = .ok (.iadd, 1) := by decide +kernel
theorem dX5_swap_125 : decode cX5_swap 125 = .ok (.iload 5, 2) := by decide +kernel
theorem dX5_swap_127 : decode cX5_swap 127 = .ok (.ifCond .eq 16, 3) := by decide +kernel
theorem dX5_swap_130 : decode cX5_swap 130 = .ok (.iload 4, 2) := by decide +kernel
theorem dX5_swap_132 : decode cX5_swap 132 = .ok (.iconst 1, 1) := by decide +kernel
theorem dX5_swap_133 : decode cX5_swap 133 = .ok (.iload_n 1, 1) := by decide +kernel
theorem dX5_swap_134 : decode cX5_swap 134 = .ok (.ishl, 1) := by decide +kernel
theorem dX5_swap_135 : decode cX5_swap 135 = .ok (.iconst 1, 1) := by decide +kernel
theorem dX5_swap_136 : decode cX5_swap 136 = .ok (.iload_n 2, 1) := by decide +kernel
theorem dX5_swap_137 : decode cX5_swap 137 = .ok (.ishl, 1) := by decide +kernel
theorem dX5_swap_138 : decode cX5_swap 138 = .ok (.ior, 1) := by decide +kernel
theorem dX5_swap_139 : decode cX5_swap 139 = .ok (.ixor, 1) := by decide +kernel
theorem dX5_swap_140 : decode cX5_swap 140 = .ok (.goto 5, 3) := by decide +kernel
theorem dX5_swap_143 : decode cX5_swap 143 = .ok (.iload 4, 2) := by decide +kernel
theorem dX5_swap_145 : decode cX5_swap 145 = .ok (.iastore, 1) := by decide +kernel
theorem dX5_swap_146 : decode cX5_swap 146 = .ok (.iinc 3 1, 3) := by decide +kernel
theorem dX5_swap_149 : decode cX5_swap 149 = .ok (.goto (-77), 3) := by decide +kernel
theorem dX5_swap_152 : decode cX5_swap 152 = .ok (.aload_n 0, 1) := by decide +kernel
theorem dX5_swap_153 : decode cX5_swap 153 = .ok (.getfield 7, 3) := by decide +kernel
theorem dX5_swap_156 : decode cX5_swap 156 = .ok (.iconst 1, 1) := by decide +kernel
theorem dX5_swap_157 : decode cX5_swap 157 = .ok (.iaload, 1) := by decide +kernel
theorem dX5_swap_158 : decode cX5_swap 158 = .ok (.ireturn, 1) := by decide +kernel
set_option maxRecDepth 20000 in
theorem ggX5_isTorn_X5_of : GoodIn wsX5_isTorn wsX5_of := goodIn_r _ [5, 6, 7, 8, 9, 10, 11, 12, 13, 14, 15, 16, 17, 18, 19] (by decide +kernel) (by decide +kernel)
set_option maxRecDepth 20000 in
theorem gX5_isTorn_X5_of : GoodIn wsX5_isTorn (wsV RX5 26 RX5 yX5_of wsX5_of) := goodIn_app (goodIn_of _ (by decide +kernel)) ggX5_isTorn_X5_of
theorem dX5_isTorn_0 : decode cX5_isTorn 0 = .ok (.aload_n 0, 1) := by decide +kernel
theorem dX5_isTorn_1 : decode cX5_isTorn 1 = .ok (.iload_n 1, 1) := by decide +kernel
theorem dX5_isTorn_2 : decode cX5_isTorn 2 = .ok (.iconst 2, 1) := by decide +kernel
theorem dX5_isTorn_3 : decode cX5_isTorn 3 = .ok (.invokevirtual 26, 3) := by decide +kernel
theorem dX5_isTorn_6 : decode cX5_isTorn 6 = .ok (.iconst 1, 1) := by decide +kernel
theorem dX5_isTorn_7 : decode cX5_isTorn 7 = .ok (.if_icmp .ne 7, 3) := by decide +kernel
theorem dX5_isTorn_10 : decode cX5_isTorn 10 = .ok (.iconst 1, 1) := by decide +kernel
theorem dX5_isTorn_11 : decode cX5_isTorn 11 = .ok (.goto 4, 3) := by decide +kernel
theorem dX5_isTorn_14 : decode cX5_isTorn 14 = .ok (.iconst 0, 1) := by decide +kernel
theorem dX5_isTorn_15 : decode cX5_isTorn 15 = .ok (.ireturn, 1) := by decide +kernel
set_option maxRecDepth 20000 in
theorem ggX5_mend_X5_isRow : GoodIn wsX5_mend wsX5_isRow := goodIn_r _ [7, 8, 27, 28, 29, 30, 31, 32, 33, 34, 35, 36, 37, 38, 39] (by decide +kernel) (by decide +kernel)
set_option maxRecDepth 20000 in
theorem gX5_mend_X5_isRow : GoodIn wsX5_mend (wsV RX5 105 RX5 yX5_isRow wsX5_isRow) := goodIn_app (goodIn_of _ (by decide +kernel)) ggX5_mend_X5_isRow
set_option maxRecDepth 20000 in
theorem ggX5_mend_X5_isTorn : GoodIn wsX5_mend wsX5_isTorn := goodIn_r _ [12, 13, 14, 15, 6, 16, 8, 27, 28, 29, 30, 31, 32, 33, 34, 35, 36, 37, 38, 39] (by decide +kernel) (by decide +kernel)
set_option maxRecDepth 20000 in
theorem gX5_mend_X5_isTorn : GoodIn wsX5_mend (wsV RX5 115 RX5 yX5_isTorn wsX5_isTorn) := goodIn_app (goodIn_of _ (by decide +kernel)) ggX5_mend_X5_isTorn
set_option maxRecDepth 20000 in
theorem ggX5_mend_X5_changes : GoodIn wsX5_mend wsX5_changes := goodIn_r _ [20, 21, 22, 8, 27, 28, 29, 30, 31, 32, 33, 34, 35, 36, 37, 38, 39] (by decide +kernel) (by decide +kernel)
set_option maxRecDepth 20000 in
theorem gX5_mend_X5_changes : GoodIn wsX5_mend (wsV RX5 102 RX5 yX5_changes wsX5_changes) := goodIn_app (goodIn_of _ (by decide +kernel)) ggX5_mend_X5_changes
set_option maxRecDepth 20000 in
theorem ggX5_mend_X5_of : GoodIn wsX5_mend wsX5_of := goodIn_r _ [16, 8, 27, 28, 29, 30, 31, 32, 33, 34, 35, 36, 37, 38, 39] (by decide +kernel) (by decide +kernel)
set_option maxRecDepth 20000 in
theorem gX5_mend_X5_of : GoodIn wsX5_mend (wsV RX5 26 RX5 yX5_of wsX5_of) := goodIn_app (goodIn_of _ (by decide +kernel)) ggX5_mend_X5_of
set_option maxRecDepth 20000 in
theorem ggX5_mend_X5_sets : GoodIn wsX5_mend wsX5_sets := goodIn_r _ [26, 8, 27, 28, 29, 30, 31, 32, 33, 34, 35, 36, 37, 38, 39] (by decide +kernel) (by decide +kernel)
set_option maxRecDepth 20000 in
theorem gX5_mend_X5_sets : GoodIn wsX5_mend (wsV RX5 82 RX5 yX5_sets wsX5_sets) := goodIn_app (goodIn_of _ (by decide +kernel)) ggX5_mend_X5_sets
theorem dX5_mend_0 : decode cX5_mend 0 = .ok (.aload_n 0, 1) := by decide +kernel
theorem dX5_mend_1 : decode cX5_mend 1 = .ok (.iload_n 1, 1) := by decide +kernel
theorem dX5_mend_2 : decode cX5_mend 2 = .ok (.invokevirtual 105, 3) := by decide +kernel
theorem dX5_mend_5 : decode cX5_mend 5 = .ok (.ifCond .ne 6, 3) := by decide +kernel
theorem dX5_mend_8 : decode cX5_mend 8 = .ok (.ldc 92, 2) := by decide +kernel
theorem dX5_mend_10 : decode cX5_mend 10 = .ok (.ireturn, 1) := by decide +kernel
theorem dX5_mend_11 : decode cX5_mend 11 = .ok (.aload_n 0, 1) := by decide +kernel
theorem dX5_mend_12 : decode cX5_mend 12 = .ok (.iload_n 1, 1) := by decide +kernel
theorem dX5_mend_13 : decode cX5_mend 13 = .ok (.invokevirtual 115, 3) := by decide +kernel
theorem dX5_mend_16 : decode cX5_mend 16 = .ok (.ifCond .ne 6, 3) := by decide +kernel
theorem dX5_mend_19 : decode cX5_mend 19 = .ok (.ldc 101, 2) := by decide +kernel
theorem dX5_mend_21 : decode cX5_mend 21 = .ok (.ireturn, 1) := by decide +kernel
theorem dX5_mend_22 : decode cX5_mend 22 = .ok (.aload_n 0, 1) := by decide +kernel
theorem dX5_mend_23 : decode cX5_mend 23 = .ok (.invokevirtual 102, 3) := by decide +kernel
theorem dX5_mend_26 : decode cX5_mend 26 = .ok (.aload_n 0, 1) := by decide +kernel
theorem dX5_mend_27 : decode cX5_mend 27 = .ok (.iload_n 1, 1) := by decide +kernel
theorem dX5_mend_28 : decode cX5_mend 28 = .ok (.iconst 1, 1) := by decide +kernel
theorem dX5_mend_29 : decode cX5_mend 29 = .ok (.aload_n 0, 1) := by decide +kernel
theorem dX5_mend_30 : decode cX5_mend 30 = .ok (.iload_n 1, 1) := by decide +kernel
theorem dX5_mend_31 : decode cX5_mend 31 = .ok (.iconst 1, 1) := by decide +kernel
theorem dX5_mend_32 : decode cX5_mend 32 = .ok (.invokevirtual 26, 3) := by decide +kernel
theorem dX5_mend_35 : decode cX5_mend 35 = .ok (.iconst 2, 1) := by decide +kernel
theorem dX5_mend_36 : decode cX5_mend 36 = .ok (.idiv, 1) := by decide +kernel
theorem dX5_mend_37 : decode cX5_mend 37 = .ok (.invokevirtual 82, 3) := by decide +kernel
theorem dX5_mend_40 : decode cX5_mend 40 = .ok (.aload_n 0, 1) := by decide +kernel
theorem dX5_mend_41 : decode cX5_mend 41 = .ok (.iload_n 1, 1) := by decide +kernel
theorem dX5_mend_42 : decode cX5_mend 42 = .ok (.iconst 2, 1) := by decide +kernel
theorem dX5_mend_43 : decode cX5_mend 43 = .ok (.iconst 0, 1) := by decide +kernel
theorem dX5_mend_44 : decode cX5_mend 44 = .ok (.invokevirtual 82, 3) := by decide +kernel
theorem dX5_mend_47 : decode cX5_mend 47 = .ok (.aload_n 0, 1) := by decide +kernel
theorem dX5_mend_48 : decode cX5_mend 48 = .ok (.iload_n 1, 1) := by decide +kernel
theorem dX5_mend_49 : decode cX5_mend 49 = .ok (.iconst 1, 1) := by decide +kernel
theorem dX5_mend_50 : decode cX5_mend 50 = .ok (.invokevirtual 26, 3) := by decide +kernel
theorem dX5_mend_53 : decode cX5_mend 53 = .ok (.ireturn, 1) := by decide +kernel
set_option maxRecDepth 20000 in
theorem ggX5_leaves_X5_of : GoodIn wsX5_leaves wsX5_of := goodIn_r _ [8, 2, 17, 18, 19, 20, 21, 22, 23, 24, 25, 26, 27, 28, 29] (by decide +kernel) (by decide +kernel)
set_option maxRecDepth 20000 in
theorem gX5_leaves_X5_of : GoodIn wsX5_leaves (wsV RX5 26 RX5 yX5_of wsX5_of) := goodIn_app (goodIn_of _ (by decide +kernel)) ggX5_leaves_X5_of
set_option maxRecDepth 20000 in
theorem ggX5_leaves_X5_sets : GoodIn wsX5_leaves wsX5_sets := goodIn_r _ [12, 2, 17, 18, 19, 20, 21, 22, 23, 24, 25, 26, 27, 28, 29] (by decide +kernel) (by decide +kernel)
set_option maxRecDepth 20000 in
theorem gX5_leaves_X5_sets : GoodIn wsX5_leaves (wsV RX5 82 RX5 yX5_sets wsX5_sets) := goodIn_app (goodIn_of _ (by decide +kernel)) ggX5_leaves_X5_sets
set_option maxRecDepth 20000 in
theorem ggX5_leaves_X5_isTorn : GoodIn wsX5_leaves wsX5_isTorn := goodIn_r _ [16, 4, 5, 6, 7, 8, 2, 17, 18, 19, 20, 21, 22, 23, 24, 25, 26, 27, 28, 29] (by decide +kernel) (by decide +kernel)
set_option maxRecDepth 20000 in
theorem gX5_leaves_X5_isTorn : GoodIn wsX5_leaves (wsV RX5 115 RX5 yX5_isTorn wsX5_isTorn) := goodIn_app (goodIn_of _ (by decide +kernel)) ggX5_leaves_X5_isTorn
theorem dX5_leaves_0 : decode cX5_leaves 0 = .ok (.iload_n 2, 1) := by decide +kernel
theorem dX5_leaves_1 : decode cX5_leaves 1 = .ok (.iconst 3, 1) := by decide +kernel
theorem dX5_leaves_2 : decode cX5_leaves 2 = .ok (.if_icmp .ne 14, 3) := by decide +kernel
theorem dX5_leaves_5 : decode cX5_leaves 5 = .ok (.aload_n 0, 1) := by decide +kernel
theorem dX5_leaves_6 : decode cX5_leaves 6 = .ok (.getfield 118, 3) := by decide +kernel
theorem dX5_leaves_9 : decode cX5_leaves 9 = .ok (.iconst 2, 1) := by decide +kernel
theorem dX5_leaves_10 : decode cX5_leaves 10 = .ok (.irem, 1) := by decide +kernel
theorem dX5_leaves_11 : decode cX5_leaves 11 = .ok (.iconst 1, 1) := by decide +kernel
theorem dX5_leaves_12 : decode cX5_leaves 12 = .ok (.if_icmp .ne 4, 3) := by decide +kernel
theorem dX5_leaves_15 : decode cX5_leaves 15 = .ok (.return_, 1) := by decide +kernel
theorem dX5_leaves_16 : decode cX5_leaves 16 = .ok (.aload_n 0, 1) := by decide +kernel
theorem dX5_leaves_17 : decode cX5_leaves 17 = .ok (.iload_n 1, 1) := by decide +kernel
theorem dX5_leaves_18 : decode cX5_leaves 18 = .ok (.iconst 1, 1) := by decide +kernel
theorem dX5_leaves_19 : decode cX5_leaves 19 = .ok (.aload_n 0, 1) := by decide +kernel
theorem dX5_leaves_20 : decode cX5_leaves 20 = .ok (.iload_n 1, 1) := by decide +kernel
theorem dX5_leaves_21 : decode cX5_leaves 21 = .ok (.iconst 1, 1) := by decide +kernel
theorem dX5_leaves_22 : decode cX5_leaves 22 = .ok (.invokevirtual 26, 3) := by decide +kernel
theorem dX5_leaves_25 : decode cX5_leaves 25 = .ok (.iload_n 2, 1) := by decide +kernel
theorem dX5_leaves_26 : decode cX5_leaves 26 = .ok (.iadd, 1) := by decide +kernel
theorem dX5_leaves_27 : decode cX5_leaves 27 = .ok (.invokevirtual 82, 3) := by decide +kernel
theorem dX5_leaves_30 : decode cX5_leaves 30 = .ok (.aload_n 0, 1) := by decide +kernel
theorem dX5_leaves_31 : decode cX5_leaves 31 = .ok (.iload_n 1, 1) := by decide +kernel
theorem dX5_leaves_32 : decode cX5_leaves 32 = .ok (.invokevirtual 115, 3) := by decide +kernel
theorem dX5_leaves_35 : decode cX5_leaves 35 = .ok (.ifCond .ne 23, 3) := by decide +kernel
theorem dX5_leaves_38 : decode cX5_leaves 38 = .ok (.aload_n 0, 1) := by decide +kernel
theorem dX5_leaves_39 : decode cX5_leaves 39 = .ok (.iload_n 1, 1) := by decide +kernel
theorem dX5_leaves_40 : decode cX5_leaves 40 = .ok (.iconst 1, 1) := by decide +kernel
theorem dX5_leaves_41 : decode cX5_leaves 41 = .ok (.invokevirtual 26, 3) := by decide +kernel
theorem dX5_leaves_44 : decode cX5_leaves 44 = .ok (.aload_n 0, 1) := by decide +kernel
theorem dX5_leaves_45 : decode cX5_leaves 45 = .ok (.getfield 7, 3) := by decide +kernel
theorem dX5_leaves_48 : decode cX5_leaves 48 = .ok (.bipush 9, 2) := by decide +kernel
theorem dX5_leaves_50 : decode cX5_leaves 50 = .ok (.iaload, 1) := by decide +kernel
theorem dX5_leaves_51 : decode cX5_leaves 51 = .ok (.if_icmp .le 7, 3) := by decide +kernel
theorem dX5_leaves_54 : decode cX5_leaves 54 = .ok (.iconst 1, 1) := by decide +kernel
theorem dX5_leaves_55 : decode cX5_leaves 55 = .ok (.goto 4, 3) := by decide +kernel
theorem dX5_leaves_58 : decode cX5_leaves 58 = .ok (.iconst 0, 1) := by decide +kernel
theorem dX5_leaves_59 : decode cX5_leaves 59 = .ok (.istore_n 3, 1) := by decide +kernel
theorem dX5_leaves_60 : decode cX5_leaves 60 = .ok (.aload_n 0, 1) := by decide +kernel
theorem dX5_leaves_61 : decode cX5_leaves 61 = .ok (.iload_n 1, 1) := by decide +kernel
theorem dX5_leaves_62 : decode cX5_leaves 62 = .ok (.iconst 2, 1) := by decide +kernel
theorem dX5_leaves_63 : decode cX5_leaves 63 = .ok (.iload_n 3, 1) := by decide +kernel
theorem dX5_leaves_64 : decode cX5_leaves 64 = .ok (.ifCond .ne 11, 3) := by decide +kernel
theorem dX5_leaves_67 : decode cX5_leaves 67 = .ok (.aload_n 0, 1) := by decide +kernel
theorem dX5_leaves_68 : decode cX5_leaves 68 = .ok (.iload_n 1, 1) := by decide +kernel
theorem dX5_leaves_69 : decode cX5_leaves 69 = .ok (.invokevirtual 115, 3) := by decide +kernel
theorem dX5_leaves_72 : decode cX5_leaves 72 = .ok (.ifCond .eq 7, 3) := by decide +kernel
theorem dX5_leaves_75 : decode cX5_leaves 75 = .ok (.iconst 1, 1) := by decide +kernel
theorem dX5_leaves_76 : decode cX5_leaves 76 = .ok (.goto 4, 3) := by decide +kernel
theorem dX5_leaves_79 : decode cX5_leaves 79 = .ok (.iconst 0, 1) := by decide +kernel
theorem dX5_leaves_80 : decode cX5_leaves 80 = .ok (.invokevirtual 82, 3) := by decide +kernel
theorem dX5_leaves_83 : decode cX5_leaves 83 = .ok (.aload_n 0, 1) := by decide +kernel
theorem dX5_leaves_84 : decode cX5_leaves 84 = .ok (.dup, 1) := by decide +kernel
theorem dX5_leaves_85 : decode cX5_leaves 85 = .ok (.getfield 121, 3) := by decide +kernel
theorem dX5_leaves_88 : decode cX5_leaves 88 = .ok (.iload_n 3, 1) := by decide +kernel
theorem dX5_leaves_89 : decode cX5_leaves 89 = .ok (.ifCond .eq 7, 3) := by decide +kernel
theorem dX5_leaves_92 : decode cX5_leaves 92 = .ok (.iconst 1, 1) := by decide +kernel
theorem dX5_leaves_93 : decode cX5_leaves 93 = .ok (.goto 4, 3) := by decide +kernel
theorem dX5_leaves_96 : decode cX5_leaves 96 = .ok (.iconst 0, 1) := by decide +kernel
theorem dX5_leaves_97 : decode cX5_leaves 97 = .ok (.iadd, 1) := by decide +kernel
theorem dX5_leaves_98 : decode cX5_leaves 98 = .ok (.putfield 121, 3) := by decide +kernel
theorem dX5_leaves_101 : decode cX5_leaves 101 = .ok (.return_, 1) := by decide +kernel
set_option maxRecDepth 20000 in
theorem ggX5_cranks_X5_isRow : GoodIn wsX5_cranks wsX5_isRow := goodIn_r _ [8, 3, 25, 26, 27, 28, 29, 30, 31, 32, 33, 34, 35, 36, 37] (by decide +kernel) (by decide +kernel)
set_option maxRecDepth 20000 in
theorem gX5_cranks_X5_isRow : GoodIn wsX5_cranks (wsV RX5 105 RX5 yX5_isRow wsX5_isRow) := goodIn_app (goodIn_of _ (by decide +kernel)) ggX5_cranks_X5_isRow
set_option maxRecDepth 20000 in
theorem ggX5_cranks_X5_leaves : GoodIn wsX5_cranks wsX5_leaves := goodIn_r _ [12, 1, 3, 2, 13, 14, 15, 7, 16, 17, 18, 19, 20, 21, 22, 23, 24, 25, 26, 27, 28, 29, 30, 31, 32, 33, 34, 35, 36, 37] (by decide +kernel) (by decide +kernel)
set_option maxRecDepth 20000 in
theorem gX5_cranks_X5_leaves : GoodIn wsX5_cranks (wsV RX5 124 RX5 yX5_leaves wsX5_leaves) := goodIn_app (goodIn_of _ (by decide +kernel)) ggX5_cranks_X5_leaves
set_option maxRecDepth 20000 in
theorem ggX5_cranks_X5_isTorn : GoodIn wsX5_cranks wsX5_isTorn := goodIn_r _ [24, 13, 14, 15, 7, 16, 3, 25, 26, 27, 28, 29, 30, 31, 32, 33, 34, 35, 36, 37] (by decide +kernel) (by decide +kernel)
set_option maxRecDepth 20000 in
theorem gX5_cranks_X5_isTorn : GoodIn wsX5_cranks (wsV RX5 115 RX5 yX5_isTorn wsX5_isTorn) := goodIn_app (goodIn_of _ (by decide +kernel)) ggX5_cranks_X5_isTorn
theorem dX5_cranks_0 : decode cX5_cranks 0 = .ok (.iload_n 1, 1) := by decide +kernel
theorem dX5_cranks_1 : decode cX5_cranks 1 = .ok (.ifCond .le 7, 3) := by decide +kernel
theorem dX5_cranks_4 : decode cX5_cranks 4 = .ok (.iconst 1, 1) := by decide +kernel
theorem dX5_cranks_5 : decode cX5_cranks 5 = .ok (.goto 4, 3) := by decide +kernel
theorem dX5_cranks_8 : decode cX5_cranks 8 = .ok (.iconst (-1), 1) := by decide +kernel
theorem dX5_cranks_9 : decode cX5_cranks 9 = .ok (.istore_n 3, 1) := by decide +kernel
theorem dX5_cranks_10 : decode cX5_cranks 10 = .ok (.aload_n 0, 1) := by decide +kernel
theorem dX5_cranks_11 : decode cX5_cranks 11 = .ok (.iconst 0, 1) := by decide +kernel
theorem dX5_cranks_12 : decode cX5_cranks 12 = .ok (.putfield 118, 3) := by decide +kernel
theorem dX5_cranks_15 : decode cX5_cranks 15 = .ok (.aload_n 0, 1) := by decide +kernel
theorem dX5_cranks_16 : decode cX5_cranks 16 = .ok (.iconst 0, 1) := by decide +kernel
theorem dX5_cranks_17 : decode cX5_cranks 17 = .ok (.putfield 121, 3) := by decide +kernel
theorem dX5_cranks_20 : decode cX5_cranks 20 = .ok (.iconst 0, 1) := by decide +kernel
theorem dX5_cranks_21 : decode cX5_cranks 21 = .ok (.istore 4, 2) := by decide +kernel
theorem dX5_cranks_23 : decode cX5_cranks 23 = .ok (.aload_n 0, 1) := by decide +kernel
theorem dX5_cranks_24 : decode cX5_cranks 24 = .ok (.getfield 118, 3) := by decide +kernel
theorem dX5_cranks_27 : decode cX5_cranks 27 = .ok (.iload_n 1, 1) := by decide +kernel
theorem dX5_cranks_28 : decode cX5_cranks 28 = .ok (.iload_n 3, 1) := by decide +kernel
theorem dX5_cranks_29 : decode cX5_cranks 29 = .ok (.imul, 1) := by decide +kernel
theorem dX5_cranks_30 : decode cX5_cranks 30 = .ok (.if_icmp .eq 69, 3) := by decide +kernel
theorem dX5_cranks_33 : decode cX5_cranks 33 = .ok (.aload_n 0, 1) := by decide +kernel
theorem dX5_cranks_34 : decode cX5_cranks 34 = .ok (.aload_n 0, 1) := by decide +kernel
theorem dX5_cranks_35 : decode cX5_cranks 35 = .ok (.getfield 7, 3) := by decide +kernel
theorem dX5_cranks_38 : decode cX5_cranks 38 = .ok (.iconst 1, 1) := by decide +kernel
theorem dX5_cranks_39 : decode cX5_cranks 39 = .ok (.iaload, 1) := by decide +kernel
theorem dX5_cranks_40 : decode cX5_cranks 40 = .ok (.iload_n 3, 1) := by decide +kernel
theorem dX5_cranks_41 : decode cX5_cranks 41 = .ok (.iadd, 1) := by decide +kernel
theorem dX5_cranks_42 : decode cX5_cranks 42 = .ok (.invokevirtual 105, 3) := by decide +kernel
theorem dX5_cranks_45 : decode cX5_cranks 45 = .ok (.ifCond .eq 54, 3) := by decide +kernel
theorem dX5_cranks_48 : decode cX5_cranks 48 = .ok (.iload 4, 2) := by decide +kernel
theorem dX5_cranks_50 : decode cX5_cranks 50 = .ok (.ifCond .ne 49, 3) := by decide +kernel
theorem dX5_cranks_53 : decode cX5_cranks 53 = .ok (.aload_n 0, 1) := by decide +kernel
theorem dX5_cranks_54 : decode cX5_cranks 54 = .ok (.aload_n 0, 1) := by decide +kernel
theorem dX5_cranks_55 : decode cX5_cranks 55 = .ok (.getfield 7, 3) := by decide +kernel
theorem dX5_cranks_58 : decode cX5_cranks 58 = .ok (.iconst 1, 1) := by decide +kernel
theorem dX5_cranks_59 : decode cX5_cranks 59 = .ok (.iaload, 1) := by decide +kernel
theorem dX5_cranks_60 : decode cX5_cranks 60 = .ok (.iload_n 2, 1) := by decide +kernel
theorem dX5_cranks_61 : decode cX5_cranks 61 = .ok (.invokevirtual 124, 3) := by decide +kernel
theorem dX5_cranks_64 : decode cX5_cranks 64 = .ok (.aload_n 0, 1) := by decide +kernel
theorem dX5_cranks_65 : decode cX5_cranks 65 = .ok (.getfield 7, 3) := by decide +kernel
theorem dX5_cranks_68 : decode cX5_cranks 68 = .ok (.iconst 1, 1) := by decide +kernel
theorem dX5_cranks_69 : decode cX5_cranks 69 = .ok (.dup2, 1) := by decide +kernel
theorem dX5_cranks_70 : decode cX5_cranks 70 = .ok (.iaload, 1) := by decide +kernel
theorem dX5_cranks_71 : decode cX5_cranks 71 = .ok (.iload_n 3, 1) := by decide +kernel
theorem dX5_cranks_72 : decode cX5_cranks 72 = .ok (.iadd, 1) := by decide +kernel
theorem dX5_cranks_73 : decode cX5_cranks 73 = .ok (.iastore, 1) := by decide +kernel
theorem dX5_cranks_74 : decode cX5_cranks 74 = .ok (.aload_n 0, 1) := by decide +kernel
theorem dX5_cranks_75 : decode cX5_cranks 75 = .ok (.aload_n 0, 1) := by decide +kernel
theorem dX5_cranks_76 : decode cX5_cranks 76 = .ok (.getfield 7, 3) := by decide +kernel
theorem dX5_cranks_79 : decode cX5_cranks 79 = .ok (.iconst 1, 1) := by decide +kernel
theorem dX5_cranks_80 : decode cX5_cranks 80 = .ok (.iaload, 1) := by decide +kernel
theorem dX5_cranks_81 : decode cX5_cranks 81 = .ok (.invokevirtual 115, 3) := by decide +kernel
theorem dX5_cranks_84 : decode cX5_cranks 84 = .ok (.istore 4, 2) := by decide +kernel
theorem dX5_cranks_86 : decode cX5_cranks 86 = .ok (.aload_n 0, 1) := by decide +kernel
theorem dX5_cranks_87 : decode cX5_cranks 87 = .ok (.dup, 1) := by decide +kernel
theorem dX5_cranks_88 : decode cX5_cranks 88 = .ok (.getfield 118, 3) := by decide +kernel
theorem dX5_cranks_91 : decode cX5_cranks 91 = .ok (.iconst 1, 1) := by decide +kernel
theorem dX5_cranks_92 : decode cX5_cranks 92 = .ok (.iadd, 1) := by decide +kernel
theorem dX5_cranks_93 : decode cX5_cranks 93 = .ok (.putfield 118, 3) := by decide +kernel
theorem dX5_cranks_96 : decode cX5_cranks 96 = .ok (.goto (-73), 3) := by decide +kernel
theorem dX5_cranks_99 : decode cX5_cranks 99 = .ok (.aload_n 0, 1) := by decide +kernel
theorem dX5_cranks_100 : decode cX5_cranks 100 = .ok (.getfield 7, 3) := by decide +kernel
theorem dX5_cranks_103 : decode cX5_cranks 103 = .ok (.iconst 4, 1) := by decide +kernel
theorem dX5_cranks_104 : decode cX5_cranks 104 = .ok (.dup2, 1) := by decide +kernel
theorem dX5_cranks_105 : decode cX5_cranks 105 = .ok (.iaload, 1) := by decide +kernel
theorem dX5_cranks_106 : decode cX5_cranks 106 = .ok (.aload_n 0, 1) := by decide +kernel
theorem dX5_cranks_107 : decode cX5_cranks 107 = .ok (.getfield 121, 3) := by decide +kernel
theorem dX5_cranks_110 : decode cX5_cranks 110 = .ok (.iadd, 1) := by decide +kernel
theorem dX5_cranks_111 : decode cX5_cranks 111 = .ok (.iastore, 1) := by decide +kernel
theorem dX5_cranks_112 : decode cX5_cranks 112 = .ok (.aload_n 0, 1) := by decide +kernel
theorem dX5_cranks_113 : decode cX5_cranks 113 = .ok (.getfield 7, 3) := by decide +kernel
theorem dX5_cranks_116 : decode cX5_cranks 116 = .ok (.iconst 5, 1) := by decide +kernel
theorem dX5_cranks_117 : decode cX5_cranks 117 = .ok (.dup2, 1) := by decide +kernel
theorem dX5_cranks_118 : decode cX5_cranks 118 = .ok (.iaload, 1) := by decide +kernel
theorem dX5_cranks_119 : decode cX5_cranks 119 = .ok (.aload_n 0, 1) := by decide +kernel
theorem dX5_cranks_120 : decode cX5_cranks 120 = .ok (.getfield 118, 3) := by decide +kernel
theorem dX5_cranks_123 : decode cX5_cranks 123 = .ok (.iadd, 1) := by decide +kernel
theorem dX5_cranks_124 : decode cX5_cranks 124 = .ok (.iastore, 1) := by decide +kernel
theorem dX5_cranks_125 : decode cX5_cranks 125 = .ok (.aload_n 0, 1) := by decide +kernel
theorem dX5_cranks_126 : decode cX5_cranks 126 = .ok (.getfield 118, 3) := by decide +kernel
theorem dX5_cranks_129 : decode cX5_cranks 129 = .ok (.iload_n 1, 1) := by decide +kernel
theorem dX5_cranks_130 : decode cX5_cranks 130 = .ok (.iload_n 3, 1) := by decide +kernel
theorem dX5_cranks_131 : decode cX5_cranks 131 = .ok (.imul, 1) := by decide +kernel
theorem dX5_cranks_132 : decode cX5_cranks 132 = .ok (.if_icmp .ne 7, 3) := by decide +kernel
theorem dX5_cranks_135 : decode cX5_cranks 135 = .ok (.iconst 0, 1) := by decide +kernel
theorem dX5_cranks_136 : decode cX5_cranks 136 = .ok (.goto 23, 3) := by decide +kernel
theorem dX5_cranks_139 : decode cX5_cranks 139 = .ok (.aload_n 0, 1) := by decide +kernel
theorem dX5_cranks_140 : decode cX5_cranks 140 = .ok (.aload_n 0, 1) := by decide +kernel
theorem dX5_cranks_141 : decode cX5_cranks 141 = .ok (.getfield 7, 3) := by decide +kernel
theorem dX5_cranks_144 : decode cX5_cranks 144 = .ok (.iconst 1, 1) := by decide +kernel
theorem dX5_cranks_145 : decode cX5_cranks 145 = .ok (.iaload, 1) := by decide +kernel
theorem dX5_cranks_146 : decode cX5_cranks 146 = .ok (.iload_n 3, 1) := by decide +kernel
theorem dX5_cranks_147 : decode cX5_cranks 147 = .ok (.iadd, 1) := by decide +kernel
theorem dX5_cranks_148 : decode cX5_cranks 148 = .ok (.invokevirtual 105, 3) := by decide +kernel
theorem dX5_cranks_151 : decode cX5_cranks 151 = .ok (.ifCond .eq 7, 3) := by decide +kernel
theorem dX5_cranks_154 : decode cX5_cranks 154 = .ok (.iconst 2, 1) := by decide +kernel
theorem dX5_cranks_155 : decode cX5_cranks 155 = .ok (.goto 4, 3) := by decide +kernel
theorem dX5_cranks_158 : decode cX5_cranks 158 = .ok (.iconst 1, 1) := by decide +kernel
theorem dX5_cranks_159 : decode cX5_cranks 159 = .ok (.ireturn, 1) := by decide +kernel
set_option maxRecDepth 20000 in
theorem ggX5_mayCrank_X5_in : GoodIn wsX5_mayCrank wsX5_in := goodIn_r _ [7] (by decide +kernel) (by decide +kernel)
set_option maxRecDepth 20000 in
theorem gX5_mayCrank_X5_in : GoodIn wsX5_mayCrank (va_wsS RX5 61 yX5_in wsX5_in) := goodIn_app (goodIn_of _ (by decide +kernel)) ggX5_mayCrank_X5_in
theorem dX5_mayCrank_0 : decode cX5_mayCrank 0 = .ok (.iload_n 1, 1) := by decide +kernel
theorem dX5_mayCrank_1 : decode cX5_mayCrank 1 = .ok (.bipush (-20), 2) := by decide +kernel
theorem dX5_mayCrank_3 : decode cX5_mayCrank 3 = .ok (.bipush 20, 2) := by decide +kernel
theorem dX5_mayCrank_5 : decode cX5_mayCrank 5 = .ok (.invokestatic 61, 3) := by decide +kernel
theorem dX5_mayCrank_8 : decode cX5_mayCrank 8 = .ok (.ifCond .eq 16, 3) := by decide +kernel
theorem dX5_mayCrank_11 : decode cX5_mayCrank 11 = .ok (.iload_n 1, 1) := by decide +kernel
theorem dX5_mayCrank_12 : decode cX5_mayCrank 12 = .ok (.ifCond .eq 12, 3) := by decide +kernel
theorem dX5_mayCrank_15 : decode cX5_mayCrank 15 = .ok (.iload_n 2, 1) := by decide +kernel
theorem dX5_mayCrank_16 : decode cX5_mayCrank 16 = .ok (.iconst 1, 1) := by decide +kernel
theorem dX5_mayCrank_17 : decode cX5_mayCrank 17 = .ok (.iconst 3, 1) := by decide +kernel
theorem dX5_mayCrank_18 : decode cX5_mayCrank 18 = .ok (.invokestatic 61, 3) := by decide +kernel
theorem dX5_mayCrank_21 : decode cX5_mayCrank 21 = .ok (.ifCond .ne 8, 3) := by decide +kernel
theorem dX5_mayCrank_24 : decode cX5_mayCrank 24 = .ok (.ldc 92, 2) := by decide +kernel
theorem dX5_mayCrank_26 : decode cX5_mayCrank 26 = .ok (.goto 18, 3) := by decide +kernel
theorem dX5_mayCrank_29 : decode cX5_mayCrank 29 = .ok (.aload_n 0, 1) := by decide +kernel
theorem dX5_mayCrank_30 : decode cX5_mayCrank 30 = .ok (.getfield 7, 3) := by decide +kernel
theorem dX5_mayCrank_33 : decode cX5_mayCrank 33 = .ok (.iconst 0, 1) := by decide +kernel
theorem dX5_mayCrank_34 : decode cX5_mayCrank 34 = .ok (.iaload, 1) := by decide +kernel
theorem dX5_mayCrank_35 : decode cX5_mayCrank 35 = .ok (.ifCond .ne 8, 3) := by decide +kernel
theorem dX5_mayCrank_38 : decode cX5_mayCrank 38 = .ok (.ldc 101, 2) := by decide +kernel
theorem dX5_mayCrank_40 : decode cX5_mayCrank 40 = .ok (.goto 4, 3) := by decide +kernel
theorem dX5_mayCrank_43 : decode cX5_mayCrank 43 = .ok (.iconst 0, 1) := by decide +kernel
theorem dX5_mayCrank_44 : decode cX5_mayCrank 44 = .ok (.ireturn, 1) := by decide +kernel
set_option maxRecDepth 20000 in
theorem ggX5_crank_X5_mayCrank : GoodIn wsX5_crank wsX5_mayCrank := goodIn_r _ [7, 8, 2, 9, 10, 11, 6, 12, 45, 46, 47, 48, 49, 50, 51, 52, 53, 54, 55, 56, 57] (by decide +kernel) (by decide +kernel)
set_option maxRecDepth 20000 in
theorem gX5_crank_X5_mayCrank : GoodIn wsX5_crank (wsV RX5 128 RX5 yX5_mayCrank wsX5_mayCrank) := goodIn_app (goodIn_of _ (by decide +kernel)) ggX5_crank_X5_mayCrank
set_option maxRecDepth 20000 in
theorem ggX5_crank_X5_changes : GoodIn wsX5_crank wsX5_changes := goodIn_r _ [16, 17, 18, 2, 45, 46, 47, 48, 49, 50, 51, 52, 53, 54, 55, 56, 57] (by decide +kernel) (by decide +kernel)
set_option maxRecDepth 20000 in
theorem gX5_crank_X5_changes : GoodIn wsX5_crank (wsV RX5 102 RX5 yX5_changes wsX5_changes) := goodIn_app (goodIn_of _ (by decide +kernel)) ggX5_crank_X5_changes
set_option maxRecDepth 20000 in
theorem ggX5_crank_X5_cranks : GoodIn wsX5_crank wsX5_cranks := goodIn_r _ [22, 23, 24, 2, 25, 26, 27, 6, 28, 29, 30, 31, 32, 33, 34, 35, 36, 37, 38, 39, 40, 41, 42, 43, 44, 45, 46, 47, 48, 49, 50, 51, 52, 53, 54, 55, 56, 57] (by decide +kernel) (by decide +kernel)
set_option maxRecDepth 20000 in
theorem gX5_crank_X5_cranks : GoodIn wsX5_crank (wsV RX5 131 RX5 yX5_cranks wsX5_cranks) := goodIn_app (goodIn_of _ (by decide +kernel)) ggX5_crank_X5_cranks
theorem dX5_crank_0 : decode cX5_crank 0 = .ok (.aload_n 0, 1) := by decide +kernel
theorem dX5_crank_1 : decode cX5_crank 1 = .ok (.iload_n 1, 1) := by decide +kernel
theorem dX5_crank_2 : decode cX5_crank 2 = .ok (.iload_n 2, 1) := by decide +kernel
theorem dX5_crank_3 : decode cX5_crank 3 = .ok (.invokevirtual 128, 3) := by decide +kernel
theorem dX5_crank_6 : decode cX5_crank 6 = .ok (.istore_n 3, 1) := by decide +kernel
theorem dX5_crank_7 : decode cX5_crank 7 = .ok (.iload_n 3, 1) := by decide +kernel
theorem dX5_crank_8 : decode cX5_crank 8 = .ok (.ifCond .ge 5, 3) := by decide +kernel
theorem dX5_crank_11 : decode cX5_crank 11 = .ok (.iload_n 3, 1) := by decide +kernel
theorem dX5_crank_12 : decode cX5_crank 12 = .ok (.ireturn, 1) := by decide +kernel
theorem dX5_crank_13 : decode cX5_crank 13 = .ok (.aload_n 0, 1) := by decide +kernel
theorem dX5_crank_14 : decode cX5_crank 14 = .ok (.invokevirtual 102, 3) := by decide +kernel
theorem dX5_crank_17 : decode cX5_crank 17 = .ok (.aload_n 0, 1) := by decide +kernel
theorem dX5_crank_18 : decode cX5_crank 18 = .ok (.iload_n 1, 1) := by decide +kernel
theorem dX5_crank_19 : decode cX5_crank 19 = .ok (.iload_n 2, 1) := by decide +kernel
theorem dX5_crank_20 : decode cX5_crank 20 = .ok (.invokevirtual 131, 3) := by decide +kernel
theorem dX5_crank_23 : decode cX5_crank 23 = .ok (.istore 4, 2) := by decide +kernel
theorem dX5_crank_25 : decode cX5_crank 25 = .ok (.iload 4, 2) := by decide +kernel
theorem dX5_crank_27 : decode cX5_crank 27 = .ok (.ifCond .ge 8, 3) := by decide +kernel
theorem dX5_crank_30 : decode cX5_crank 30 = .ok (.ldc 100, 2) := by decide +kernel
theorem dX5_crank_32 : decode cX5_crank 32 = .ok (.goto 9, 3) := by decide +kernel
theorem dX5_crank_35 : decode cX5_crank 35 = .ok (.aload_n 0, 1) := by decide +kernel
theorem dX5_crank_36 : decode cX5_crank 36 = .ok (.getfield 7, 3) := by decide +kernel
theorem dX5_crank_39 : decode cX5_crank 39 = .ok (.iconst 1, 1) := by decide +kernel
theorem dX5_crank_40 : decode cX5_crank 40 = .ok (.iaload, 1) := by decide +kernel
theorem dX5_crank_41 : decode cX5_crank 41 = .ok (.ireturn, 1) := by decide +kernel
set_option maxRecDepth 20000 in
theorem ggX5_route_X5_in : GoodIn wsX5_route wsX5_in := goodIn_r _ [7] (by decide +kernel) (by decide +kernel)
set_option maxRecDepth 20000 in
theorem gX5_route_X5_in : GoodIn wsX5_route (va_wsS RX5 61 yX5_in wsX5_in) := goodIn_app (goodIn_of _ (by decide +kernel)) ggX5_route_X5_in
set_option maxRecDepth 20000 in
theorem ggX5_route_X5_changes : GoodIn wsX5_route wsX5_changes := goodIn_r _ [11, 12, 13, 1, 14, 15, 16, 17, 18, 19, 20, 21, 22, 23, 24, 25, 26] (by decide +kernel) (by decide +kernel)
set_option maxRecDepth 20000 in
theorem gX5_route_X5_changes : GoodIn wsX5_route (wsV RX5 102 RX5 yX5_changes wsX5_changes) := goodIn_app (goodIn_of _ (by decide +kernel)) ggX5_route_X5_changes
theorem dX5_route_0 : decode cX5_route 0 = .ok (.iload_n 1, 1) := by decide +kernel
theorem dX5_route_1 : decode cX5_route 1 = .ok (.iconst 1, 1) := by decide +kernel
theorem dX5_route_2 : decode cX5_route 2 = .ok (.iconst 1, 1) := by decide +kernel
theorem dX5_route_3 : decode cX5_route 3 = .ok (.aload_n 0, 1) := by decide +kernel
theorem dX5_route_4 : decode cX5_route 4 = .ok (.getfield 7, 3) := by decide +kernel
theorem dX5_route_7 : decode cX5_route 7 = .ok (.iconst 0, 1) := by decide +kernel
theorem dX5_route_8 : decode cX5_route 8 = .ok (.iaload, 1) := by decide +kernel
theorem dX5_route_9 : decode cX5_route 9 = .ok (.ishl, 1) := by decide +kernel
theorem dX5_route_10 : decode cX5_route 10 = .ok (.iconst 1, 1) := by decide +kernel
theorem dX5_route_11 : decode cX5_route 11 = .ok (.isub, 1) := by decide +kernel
theorem dX5_route_12 : decode cX5_route 12 = .ok (.invokestatic 61, 3) := by decide +kernel
theorem dX5_route_15 : decode cX5_route 15 = .ok (.ifCond .ne 6, 3) := by decide +kernel
theorem dX5_route_18 : decode cX5_route 18 = .ok (.ldc 92, 2) := by decide +kernel
theorem dX5_route_20 : decode cX5_route 20 = .ok (.ireturn, 1) := by decide +kernel
theorem dX5_route_21 : decode cX5_route 21 = .ok (.aload_n 0, 1) := by decide +kernel
theorem dX5_route_22 : decode cX5_route 22 = .ok (.getfield 7, 3) := by decide +kernel
theorem dX5_route_25 : decode cX5_route 25 = .ok (.iconst 2, 1) := by decide +kernel
theorem dX5_route_26 : decode cX5_route 26 = .ok (.iaload, 1) := by decide +kernel
theorem dX5_route_27 : decode cX5_route 27 = .ok (.istore_n 2, 1) := by decide +kernel
theorem dX5_route_28 : decode cX5_route 28 = .ok (.iload_n 2, 1) := by decide +kernel
theorem dX5_route_29 : decode cX5_route 29 = .ok (.bipush 6, 2) := by decide +kernel
theorem dX5_route_31 : decode cX5_route 31 = .ok (.if_icmp .ne 6, 3) := by decide +kernel
theorem dX5_route_34 : decode cX5_route 34 = .ok (.ldc 134, 2) := by decide +kernel
theorem dX5_route_36 : decode cX5_route 36 = .ok (.ireturn, 1) := by decide +kernel
theorem dX5_route_37 : decode cX5_route 37 = .ok (.aload_n 0, 1) := by decide +kernel
theorem dX5_route_38 : decode cX5_route 38 = .ok (.invokevirtual 102, 3) := by decide +kernel
theorem dX5_route_41 : decode cX5_route 41 = .ok (.aload_n 0, 1) := by decide +kernel
theorem dX5_route_42 : decode cX5_route 42 = .ok (.getfield 7, 3) := by decide +kernel
theorem dX5_route_45 : decode cX5_route 45 = .ok (.sipush 351, 3) := by decide +kernel
theorem dX5_route_48 : decode cX5_route 48 = .ok (.iconst 3, 1) := by decide +kernel
theorem dX5_route_49 : decode cX5_route 49 = .ok (.iload_n 2, 1) := by decide +kernel
theorem dX5_route_50 : decode cX5_route 50 = .ok (.imul, 1) := by decide +kernel
theorem dX5_route_51 : decode cX5_route 51 = .ok (.iadd, 1) := by decide +kernel
theorem dX5_route_52 : decode cX5_route 52 = .ok (.iconst 0, 1) := by decide +kernel
theorem dX5_route_53 : decode cX5_route 53 = .ok (.iadd, 1) := by decide +kernel
theorem dX5_route_54 : decode cX5_route 54 = .ok (.iload_n 1, 1) := by decide +kernel
theorem dX5_route_55 : decode cX5_route 55 = .ok (.iastore, 1) := by decide +kernel
theorem dX5_route_56 : decode cX5_route 56 = .ok (.aload_n 0, 1) := by decide +kernel
theorem dX5_route_57 : decode cX5_route 57 = .ok (.getfield 7, 3) := by decide +kernel
theorem dX5_route_60 : decode cX5_route 60 = .ok (.sipush 351, 3) := by decide +kernel
theorem dX5_route_63 : decode cX5_route 63 = .ok (.iconst 3, 1) := by decide +kernel
theorem dX5_route_64 : decode cX5_route 64 = .ok (.iload_n 2, 1) := by decide +kernel
theorem dX5_route_65 : decode cX5_route 65 = .ok (.imul, 1) := by decide +kernel
theorem dX5_route_66 : decode cX5_route 66 = .ok (.iadd, 1) := by decide +kernel
theorem dX5_route_67 : decode cX5_route 67 = .ok (.iconst 1, 1) := by decide +kernel
theorem dX5_route_68 : decode cX5_route 68 = .ok (.iadd, 1) := by decide +kernel
theorem dX5_route_69 : decode cX5_route 69 = .ok (.iconst 0, 1) := by decide +kernel
theorem dX5_route_70 : decode cX5_route 70 = .ok (.iastore, 1) := by decide +kernel
theorem dX5_route_71 : decode cX5_route 71 = .ok (.aload_n 0, 1) := by decide +kernel
theorem dX5_route_72 : decode cX5_route 72 = .ok (.getfield 7, 3) := by decide +kernel
theorem dX5_route_75 : decode cX5_route 75 = .ok (.sipush 351, 3) := by decide +kernel
theorem dX5_route_78 : decode cX5_route 78 = .ok (.iconst 3, 1) := by decide +kernel
theorem dX5_route_79 : decode cX5_route 79 = .ok (.iload_n 2, 1) := by decide +kernel
theorem dX5_route_80 : decode cX5_route 80 = .ok (.imul, 1) := by decide +kernel
theorem dX5_route_81 : decode cX5_route 81 = .ok (.iadd, 1) := by decide +kernel
theorem dX5_route_82 : decode cX5_route 82 = .ok (.iconst 2, 1) := by decide +kernel
theorem dX5_route_83 : decode cX5_route 83 = .ok (.iadd, 1) := by decide +kernel
theorem dX5_route_84 : decode cX5_route 84 = .ok (.iconst 0, 1) := by decide +kernel
theorem dX5_route_85 : decode cX5_route 85 = .ok (.iastore, 1) := by decide +kernel
theorem dX5_route_86 : decode cX5_route 86 = .ok (.aload_n 0, 1) := by decide +kernel
theorem dX5_route_87 : decode cX5_route 87 = .ok (.getfield 7, 3) := by decide +kernel
theorem dX5_route_90 : decode cX5_route 90 = .ok (.iconst 2, 1) := by decide +kernel
theorem dX5_route_91 : decode cX5_route 91 = .ok (.dup2, 1) := by decide +kernel
theorem dX5_route_92 : decode cX5_route 92 = .ok (.iaload, 1) := by decide +kernel
theorem dX5_route_93 : decode cX5_route 93 = .ok (.iconst 1, 1) := by decide +kernel
theorem dX5_route_94 : decode cX5_route 94 = .ok (.iadd, 1) := by decide +kernel
theorem dX5_route_95 : decode cX5_route 95 = .ok (.iastore, 1) := by decide +kernel
theorem dX5_route_96 : decode cX5_route 96 = .ok (.iload_n 2, 1) := by decide +kernel
theorem dX5_route_97 : decode cX5_route 97 = .ok (.ireturn, 1) := by decide +kernel
set_option maxRecDepth 20000 in
theorem ggX5_drive_X5_isRoute : GoodIn wsX5_drive wsX5_isRoute := goodIn_r _ [7, 2, 14, 15, 16, 17, 18, 19, 20, 21, 22, 23, 24, 25, 26] (by decide +kernel) (by decide +kernel)
set_option maxRecDepth 20000 in
theorem gX5_drive_X5_isRoute : GoodIn wsX5_drive (wsV RX5 135 RX5 yX5_isRoute wsX5_isRoute) := goodIn_app (goodIn_of _ (by decide +kernel)) ggX5_drive_X5_isRoute
set_option maxRecDepth 20000 in
theorem ggX5_drive_X5_changes : GoodIn wsX5_drive wsX5_changes := goodIn_r _ [11, 12, 13, 2, 14, 15, 16, 17, 18, 19, 20, 21, 22, 23, 24, 25, 26] (by decide +kernel) (by decide +kernel)
set_option maxRecDepth 20000 in
theorem gX5_drive_X5_changes : GoodIn wsX5_drive (wsV RX5 102 RX5 yX5_changes wsX5_changes) := goodIn_app (goodIn_of _ (by decide +kernel)) ggX5_drive_X5_changes
theorem dX5_drive_0 : decode cX5_drive 0 = .ok (.iload_n 1, 1) := by decide +kernel
theorem dX5_drive_1 : decode cX5_drive 1 = .ok (.iconst (-1), 1) := by decide +kernel
theorem dX5_drive_2 : decode cX5_drive 2 = .ok (.if_icmp .eq 14, 3) := by decide +kernel
theorem dX5_drive_5 : decode cX5_drive 5 = .ok (.aload_n 0, 1) := by decide +kernel
theorem dX5_drive_6 : decode cX5_drive 6 = .ok (.iload_n 1, 1) := by decide +kernel
theorem dX5_drive_7 : decode cX5_drive 7 = .ok (.invokevirtual 135, 3) := by decide +kernel
theorem dX5_drive_10 : decode cX5_drive 10 = .ok (.ifCond .ne 6, 3) := by decide +kernel
theorem dX5_drive_13 : decode cX5_drive 13 = .ok (.ldc 92, 2) := by decide +kernel
theorem dX5_drive_15 : decode cX5_drive 15 = .ok (.ireturn, 1) := by decide +kernel
theorem dX5_drive_16 : decode cX5_drive 16 = .ok (.aload_n 0, 1) := by decide +kernel
theorem dX5_drive_17 : decode cX5_drive 17 = .ok (.invokevirtual 102, 3) := by decide +kernel
theorem dX5_drive_20 : decode cX5_drive 20 = .ok (.aload_n 0, 1) := by decide +kernel
theorem dX5_drive_21 : decode cX5_drive 21 = .ok (.getfield 7, 3) := by decide +kernel
theorem dX5_drive_24 : decode cX5_drive 24 = .ok (.iconst 3, 1) := by decide +kernel
theorem dX5_drive_25 : decode cX5_drive 25 = .ok (.iaload, 1) := by decide +kernel
theorem dX5_drive_26 : decode cX5_drive 26 = .ok (.istore_n 2, 1) := by decide +kernel
theorem dX5_drive_27 : decode cX5_drive 27 = .ok (.aload_n 0, 1) := by decide +kernel
theorem dX5_drive_28 : decode cX5_drive 28 = .ok (.getfield 7, 3) := by decide +kernel
theorem dX5_drive_31 : decode cX5_drive 31 = .ok (.iconst 3, 1) := by decide +kernel
theorem dX5_drive_32 : decode cX5_drive 32 = .ok (.iload_n 1, 1) := by decide +kernel
theorem dX5_drive_33 : decode cX5_drive 33 = .ok (.iastore, 1) := by decide +kernel
theorem dX5_drive_34 : decode cX5_drive 34 = .ok (.iload_n 2, 1) := by decide +kernel
theorem dX5_drive_35 : decode cX5_drive 35 = .ok (.ireturn, 1) := by decide +kernel
set_option maxRecDepth 20000 in
theorem ggX5_wrongBy_X5_isTorn : GoodIn wsX5_wrongBy wsX5_isTorn := goodIn_r _ [6, 7, 8, 9, 5, 10, 1, 38, 39, 40, 41, 42, 43, 44, 45, 46, 47, 48, 49, 50] (by decide +kernel) (by decide +kernel)
set_option maxRecDepth 20000 in
theorem gX5_wrongBy_X5_isTorn : GoodIn wsX5_wrongBy (wsV RX5 115 RX5 yX5_isTorn wsX5_isTorn) := goodIn_app (goodIn_of _ (by decide +kernel)) ggX5_wrongBy_X5_isTorn
set_option maxRecDepth 20000 in
theorem ggX5_wrongBy_X5_kind : GoodIn wsX5_wrongBy wsX5_kind := goodIn_r _ [14, 15, 16, 17, 18, 19, 20, 5, 21, 22, 7, 8, 9, 10, 1, 38, 39, 40, 41, 42, 43, 44, 45, 46, 47, 48, 49, 50] (by decide +kernel) (by decide +kernel)
set_option maxRecDepth 20000 in
theorem gX5_wrongBy_X5_kind : GoodIn wsX5_wrongBy (wsV RX5 138 RX5 yX5_kind wsX5_kind) := goodIn_app (goodIn_of _ (by decide +kernel)) ggX5_wrongBy_X5_kind
set_option maxRecDepth 20000 in
theorem ggX5_wrongBy_X5_ofRoute : GoodIn wsX5_wrongBy wsX5_ofRoute := goodIn_r _ [26, 1, 38, 39, 40, 41, 42, 43, 44, 45, 46, 47, 48, 49, 50] (by decide +kernel) (by decide +kernel)
set_option maxRecDepth 20000 in
theorem gX5_wrongBy_X5_ofRoute : GoodIn wsX5_wrongBy (wsV RX5 109 RX5 yX5_ofRoute wsX5_ofRoute) := goodIn_app (goodIn_of _ (by decide +kernel)) ggX5_wrongBy_X5_ofRoute
set_option maxRecDepth 20000 in
theorem ggX5_wrongBy_X5_width : GoodIn wsX5_wrongBy wsX5_width := goodIn_r _ [30, 7, 8, 9, 5, 10, 1, 31, 32, 33, 38, 39, 40, 41, 42, 43, 44, 45, 46, 47, 48, 49, 50] (by decide +kernel) (by decide +kernel)
set_option maxRecDepth 20000 in
theorem gX5_wrongBy_X5_width : GoodIn wsX5_wrongBy (wsV RX5 141 RX5 yX5_width wsX5_width) := goodIn_app (goodIn_of _ (by decide +kernel)) ggX5_wrongBy_X5_width
set_option maxRecDepth 20000 in
theorem ggX5_wrongBy_X5_squeezed : GoodIn wsX5_wrongBy wsX5_squeezed := goodIn_r _ [37, 1, 38, 39, 40, 41, 42, 43, 44, 45, 46, 47, 48, 49, 50] (by decide +kernel) (by decide +kernel)
set_option maxRecDepth 20000 in
theorem gX5_wrongBy_X5_squeezed : GoodIn wsX5_wrongBy (wsV RX5 79 RX5 yX5_squeezed wsX5_squeezed) := goodIn_app (goodIn_of _ (by decide +kernel)) ggX5_wrongBy_X5_squeezed
theorem dX5_wrongBy_0 : decode cX5_wrongBy 0 = .ok (.iload_n 1, 1) := by decide +kernel
theorem dX5_wrongBy_1 : decode cX5_wrongBy 1 = .ok (.ifCond .ge 5, 3) := by decide +kernel
theorem dX5_wrongBy_4 : decode cX5_wrongBy 4 = .ok (.iconst 1, 1) := by decide +kernel
theorem dX5_wrongBy_5 : decode cX5_wrongBy 5 = .ok (.ireturn, 1) := by decide +kernel
theorem dX5_wrongBy_6 : decode cX5_wrongBy 6 = .ok (.aload_n 0, 1) := by decide +kernel
theorem dX5_wrongBy_7 : decode cX5_wrongBy 7 = .ok (.iload_n 1, 1) := by decide +kernel
theorem dX5_wrongBy_8 : decode cX5_wrongBy 8 = .ok (.invokevirtual 115, 3) := by decide +kernel
theorem dX5_wrongBy_11 : decode cX5_wrongBy 11 = .ok (.ifCond .eq 5, 3) := by decide +kernel
theorem dX5_wrongBy_14 : decode cX5_wrongBy 14 = .ok (.iconst 2, 1) := by decide +kernel
theorem dX5_wrongBy_15 : decode cX5_wrongBy 15 = .ok (.ireturn, 1) := by decide +kernel
theorem dX5_wrongBy_16 : decode cX5_wrongBy 16 = .ok (.aload_n 0, 1) := by decide +kernel
theorem dX5_wrongBy_17 : decode cX5_wrongBy 17 = .ok (.getfield 7, 3) := by decide +kernel
theorem dX5_wrongBy_20 : decode cX5_wrongBy 20 = .ok (.iconst 3, 1) := by decide +kernel
theorem dX5_wrongBy_21 : decode cX5_wrongBy 21 = .ok (.iaload, 1) := by decide +kernel
theorem dX5_wrongBy_22 : decode cX5_wrongBy 22 = .ok (.ifCond .ge 23, 3) := by decide +kernel
theorem dX5_wrongBy_25 : decode cX5_wrongBy 25 = .ok (.aload_n 0, 1) := by decide +kernel
theorem dX5_wrongBy_26 : decode cX5_wrongBy 26 = .ok (.iload_n 1, 1) := by decide +kernel
theorem dX5_wrongBy_27 : decode cX5_wrongBy 27 = .ok (.invokevirtual 138, 3) := by decide +kernel
theorem dX5_wrongBy_30 : decode cX5_wrongBy 30 = .ok (.iconst 1, 1) := by decide +kernel
theorem dX5_wrongBy_31 : decode cX5_wrongBy 31 = .ok (.if_icmp .eq 14, 3) := by decide +kernel
theorem dX5_wrongBy_34 : decode cX5_wrongBy 34 = .ok (.aload_n 0, 1) := by decide +kernel
theorem dX5_wrongBy_35 : decode cX5_wrongBy 35 = .ok (.iload_n 1, 1) := by decide +kernel
theorem dX5_wrongBy_36 : decode cX5_wrongBy 36 = .ok (.invokevirtual 138, 3) := by decide +kernel
theorem dX5_wrongBy_39 : decode cX5_wrongBy 39 = .ok (.iconst 2, 1) := by decide +kernel
theorem dX5_wrongBy_40 : decode cX5_wrongBy 40 = .ok (.if_icmp .eq 5, 3) := by decide +kernel
theorem dX5_wrongBy_43 : decode cX5_wrongBy 43 = .ok (.iconst 3, 1) := by decide +kernel
theorem dX5_wrongBy_44 : decode cX5_wrongBy 44 = .ok (.ireturn, 1) := by decide +kernel
theorem dX5_wrongBy_45 : decode cX5_wrongBy 45 = .ok (.aload_n 0, 1) := by decide +kernel
theorem dX5_wrongBy_46 : decode cX5_wrongBy 46 = .ok (.getfield 7, 3) := by decide +kernel
theorem dX5_wrongBy_49 : decode cX5_wrongBy 49 = .ok (.iconst 3, 1) := by decide +kernel
theorem dX5_wrongBy_50 : decode cX5_wrongBy 50 = .ok (.iaload, 1) := by decide +kernel
theorem dX5_wrongBy_51 : decode cX5_wrongBy 51 = .ok (.ifCond .lt 32, 3) := by decide +kernel
theorem dX5_wrongBy_54 : decode cX5_wrongBy 54 = .ok (.aload_n 0, 1) := by decide +kernel
theorem dX5_wrongBy_55 : decode cX5_wrongBy 55 = .ok (.aload_n 0, 1) := by decide +kernel
theorem dX5_wrongBy_56 : decode cX5_wrongBy 56 = .ok (.getfield 7, 3) := by decide +kernel
theorem dX5_wrongBy_59 : decode cX5_wrongBy 59 = .ok (.iconst 3, 1) := by decide +kernel
theorem dX5_wrongBy_60 : decode cX5_wrongBy 60 = .ok (.iaload, 1) := by decide +kernel
theorem dX5_wrongBy_61 : decode cX5_wrongBy 61 = .ok (.iconst 0, 1) := by decide +kernel
theorem dX5_wrongBy_62 : decode cX5_wrongBy 62 = .ok (.invokevirtual 109, 3) := by decide +kernel
theorem dX5_wrongBy_65 : decode cX5_wrongBy 65 = .ok (.iload_n 1, 1) := by decide +kernel
theorem dX5_wrongBy_66 : decode cX5_wrongBy 66 = .ok (.ishr, 1) := by decide +kernel
theorem dX5_wrongBy_67 : decode cX5_wrongBy 67 = .ok (.iconst 1, 1) := by decide +kernel
theorem dX5_wrongBy_68 : decode cX5_wrongBy 68 = .ok (.iand, 1) := by decide +kernel
theorem dX5_wrongBy_69 : decode cX5_wrongBy 69 = .ok (.ifCond .ne 14, 3) := by decide +kernel
theorem dX5_wrongBy_72 : decode cX5_wrongBy 72 = .ok (.aload_n 0, 1) := by decide +kernel
theorem dX5_wrongBy_73 : decode cX5_wrongBy 73 = .ok (.iload_n 1, 1) := by decide +kernel
theorem dX5_wrongBy_74 : decode cX5_wrongBy 74 = .ok (.invokevirtual 138, 3) := by decide +kernel
theorem dX5_wrongBy_77 : decode cX5_wrongBy 77 = .ok (.iconst 2, 1) := by decide +kernel
theorem dX5_wrongBy_78 : decode cX5_wrongBy 78 = .ok (.if_icmp .eq 5, 3) := by decide +kernel
theorem dX5_wrongBy_81 : decode cX5_wrongBy 81 = .ok (.iconst 4, 1) := by decide +kernel
theorem dX5_wrongBy_82 : decode cX5_wrongBy 82 = .ok (.ireturn, 1) := by decide +kernel
theorem dX5_wrongBy_83 : decode cX5_wrongBy 83 = .ok (.aload_n 0, 1) := by decide +kernel
theorem dX5_wrongBy_84 : decode cX5_wrongBy 84 = .ok (.aload_n 0, 1) := by decide +kernel
theorem dX5_wrongBy_85 : decode cX5_wrongBy 85 = .ok (.iload_n 1, 1) := by decide +kernel
theorem dX5_wrongBy_86 : decode cX5_wrongBy 86 = .ok (.invokevirtual 141, 3) := by decide +kernel
theorem dX5_wrongBy_89 : decode cX5_wrongBy 89 = .ok (.invokevirtual 79, 3) := by decide +kernel
theorem dX5_wrongBy_92 : decode cX5_wrongBy 92 = .ok (.bipush 120, 2) := by decide +kernel
theorem dX5_wrongBy_94 : decode cX5_wrongBy 94 = .ok (.if_icmp .le 7, 3) := by decide +kernel
theorem dX5_wrongBy_97 : decode cX5_wrongBy 97 = .ok (.iconst 5, 1) := by decide +kernel
theorem dX5_wrongBy_98 : decode cX5_wrongBy 98 = .ok (.goto 4, 3) := by decide +kernel
theorem dX5_wrongBy_101 : decode cX5_wrongBy 101 = .ok (.iconst 0, 1) := by decide +kernel
theorem dX5_wrongBy_102 : decode cX5_wrongBy 102 = .ok (.ireturn, 1) := by decide +kernel
set_option maxRecDepth 20000 in
theorem ggX5_stop_X5_changes : GoodIn wsX5_stop wsX5_changes := goodIn_r _ [6, 7, 8, 1, 48, 49, 50, 51, 52, 53, 54, 55, 56, 57, 58, 59, 60] (by decide +kernel) (by decide +kernel)
set_option maxRecDepth 20000 in
theorem gX5_stop_X5_changes : GoodIn wsX5_stop (wsV RX5 102 RX5 yX5_changes wsX5_changes) := goodIn_app (goodIn_of _ (by decide +kernel)) ggX5_stop_X5_changes
set_option maxRecDepth 20000 in
theorem ggX5_stop_X5_wrongBy : GoodIn wsX5_stop wsX5_wrongBy := goodIn_r _ [12, 1, 13, 14, 15, 5, 16, 17, 18, 19, 20, 21, 22, 23, 24, 25, 26, 27, 28, 29, 30, 31, 32, 33, 34, 35, 36, 37, 38, 39, 40, 41, 42, 43, 44, 45, 46, 47, 48, 49, 50, 51, 52, 53, 54, 55, 56, 57, 58, 59, 60] (by decide +kernel) (by decide +kernel)
set_option maxRecDepth 20000 in
theorem gX5_stop_X5_wrongBy : GoodIn wsX5_stop (wsV RX5 144 RX5 yX5_wrongBy wsX5_wrongBy) := goodIn_app (goodIn_of _ (by decide +kernel)) ggX5_stop_X5_wrongBy
theorem dX5_stop_0 : decode cX5_stop 0 = .ok (.aload_n 0, 1) := by decide +kernel
theorem dX5_stop_1 : decode cX5_stop 1 = .ok (.invokevirtual 102, 3) := by decide +kernel
theorem dX5_stop_4 : decode cX5_stop 4 = .ok (.aload_n 0, 1) := by decide +kernel
theorem dX5_stop_5 : decode cX5_stop 5 = .ok (.aload_n 0, 1) := by decide +kernel
theorem dX5_stop_6 : decode cX5_stop 6 = .ok (.getfield 7, 3) := by decide +kernel
theorem dX5_stop_9 : decode cX5_stop 9 = .ok (.iconst 1, 1) := by decide +kernel
theorem dX5_stop_10 : decode cX5_stop 10 = .ok (.iaload, 1) := by decide +kernel
theorem dX5_stop_11 : decode cX5_stop 11 = .ok (.invokevirtual 144, 3) := by decide +kernel
theorem dX5_stop_14 : decode cX5_stop 14 = .ok (.istore_n 1, 1) := by decide +kernel
theorem dX5_stop_15 : decode cX5_stop 15 = .ok (.iload_n 1, 1) := by decide +kernel
theorem dX5_stop_16 : decode cX5_stop 16 = .ok (.ifCond .ne 7, 3) := by decide +kernel
theorem dX5_stop_19 : decode cX5_stop 19 = .ok (.iconst 1, 1) := by decide +kernel
theorem dX5_stop_20 : decode cX5_stop 20 = .ok (.goto 4, 3) := by decide +kernel
theorem dX5_stop_23 : decode cX5_stop 23 = .ok (.iconst 0, 1) := by decide +kernel
theorem dX5_stop_24 : decode cX5_stop 24 = .ok (.istore_n 2, 1) := by decide +kernel
theorem dX5_stop_25 : decode cX5_stop 25 = .ok (.aload_n 0, 1) := by decide +kernel
theorem dX5_stop_26 : decode cX5_stop 26 = .ok (.getfield 7, 3) := by decide +kernel
theorem dX5_stop_29 : decode cX5_stop 29 = .ok (.bipush 6, 2) := by decide +kernel
theorem dX5_stop_31 : decode cX5_stop 31 = .ok (.dup2, 1) := by decide +kernel
theorem dX5_stop_32 : decode cX5_stop 32 = .ok (.iaload, 1) := by decide +kernel
theorem dX5_stop_33 : decode cX5_stop 33 = .ok (.iconst 1, 1) := by decide +kernel
theorem dX5_stop_34 : decode cX5_stop 34 = .ok (.iadd, 1) := by decide +kernel
theorem dX5_stop_35 : decode cX5_stop 35 = .ok (.iastore, 1) := by decide +kernel
theorem dX5_stop_36 : decode cX5_stop 36 = .ok (.aload_n 0, 1) := by decide +kernel
theorem dX5_stop_37 : decode cX5_stop 37 = .ok (.getfield 7, 3) := by decide +kernel
theorem dX5_stop_40 : decode cX5_stop 40 = .ok (.bipush 7, 2) := by decide +kernel
theorem dX5_stop_42 : decode cX5_stop 42 = .ok (.dup2, 1) := by decide +kernel
theorem dX5_stop_43 : decode cX5_stop 43 = .ok (.iaload, 1) := by decide +kernel
theorem dX5_stop_44 : decode cX5_stop 44 = .ok (.iload_n 2, 1) := by decide +kernel
theorem dX5_stop_45 : decode cX5_stop 45 = .ok (.iadd, 1) := by decide +kernel
theorem dX5_stop_46 : decode cX5_stop 46 = .ok (.iastore, 1) := by decide +kernel
theorem dX5_stop_47 : decode cX5_stop 47 = .ok (.aload_n 0, 1) := by decide +kernel
theorem dX5_stop_48 : decode cX5_stop 48 = .ok (.getfield 7, 3) := by decide +kernel
theorem dX5_stop_51 : decode cX5_stop 51 = .ok (.iconst 3, 1) := by decide +kernel
theorem dX5_stop_52 : decode cX5_stop 52 = .ok (.iaload, 1) := by decide +kernel
theorem dX5_stop_53 : decode cX5_stop 53 = .ok (.ifCond .lt 49, 3) := by decide +kernel
theorem dX5_stop_56 : decode cX5_stop 56 = .ok (.aload_n 0, 1) := by decide +kernel
theorem dX5_stop_57 : decode cX5_stop 57 = .ok (.getfield 7, 3) := by decide +kernel
theorem dX5_stop_60 : decode cX5_stop 60 = .ok (.sipush 351, 3) := by decide +kernel
theorem dX5_stop_63 : decode cX5_stop 63 = .ok (.iconst 3, 1) := by decide +kernel
theorem dX5_stop_64 : decode cX5_stop 64 = .ok (.aload_n 0, 1) := by decide +kernel
theorem dX5_stop_65 : decode cX5_stop 65 = .ok (.getfield 7, 3) := by decide +kernel
theorem dX5_stop_68 : decode cX5_stop 68 = .ok (.iconst 3, 1) := by decide +kernel
theorem dX5_stop_69 : decode cX5_stop 69 = .ok (.iaload, 1) := by decide +kernel
theorem dX5_stop_70 : decode cX5_stop 70 = .ok (.imul, 1) := by decide +kernel
theorem dX5_stop_71 : decode cX5_stop 71 = .ok (.iadd, 1) := by decide +kernel
theorem dX5_stop_72 : decode cX5_stop 72 = .ok (.iconst 1, 1) := by decide +kernel
theorem dX5_stop_73 : decode cX5_stop 73 = .ok (.iadd, 1) := by decide +kernel
theorem dX5_stop_74 : decode cX5_stop 74 = .ok (.dup2, 1) := by decide +kernel
theorem dX5_stop_75 : decode cX5_stop 75 = .ok (.iaload, 1) := by decide +kernel
theorem dX5_stop_76 : decode cX5_stop 76 = .ok (.iconst 1, 1) := by decide +kernel
theorem dX5_stop_77 : decode cX5_stop 77 = .ok (.iadd, 1) := by decide +kernel
theorem dX5_stop_78 : decode cX5_stop 78 = .ok (.iastore, 1) := by decide +kernel
theorem dX5_stop_79 : decode cX5_stop 79 = .ok (.aload_n 0, 1) := by decide +kernel
theorem dX5_stop_80 : decode cX5_stop 80 = .ok (.getfield 7, 3) := by decide +kernel
theorem dX5_stop_83 : decode cX5_stop 83 = .ok (.sipush 351, 3) := by decide +kernel
theorem dX5_stop_86 : decode cX5_stop 86 = .ok (.iconst 3, 1) := by decide +kernel
theorem dX5_stop_87 : decode cX5_stop 87 = .ok (.aload_n 0, 1) := by decide +kernel
theorem dX5_stop_88 : decode cX5_stop 88 = .ok (.getfield 7, 3) := by decide +kernel
theorem dX5_stop_91 : decode cX5_stop 91 = .ok (.iconst 3, 1) := by decide +kernel
theorem dX5_stop_92 : decode cX5_stop 92 = .ok (.iaload, 1) := by decide +kernel
theorem dX5_stop_93 : decode cX5_stop 93 = .ok (.imul, 1) := by decide +kernel
theorem dX5_stop_94 : decode cX5_stop 94 = .ok (.iadd, 1) := by decide +kernel
theorem dX5_stop_95 : decode cX5_stop 95 = .ok (.iconst 2, 1) := by decide +kernel
theorem dX5_stop_96 : decode cX5_stop 96 = .ok (.iadd, 1) := by decide +kernel
theorem dX5_stop_97 : decode cX5_stop 97 = .ok (.dup2, 1) := by decide +kernel
theorem dX5_stop_98 : decode cX5_stop 98 = .ok (.iaload, 1) := by decide +kernel
theorem dX5_stop_99 : decode cX5_stop 99 = .ok (.iload_n 2, 1) := by decide +kernel
theorem dX5_stop_100 : decode cX5_stop 100 = .ok (.iadd, 1) := by decide +kernel
theorem dX5_stop_101 : decode cX5_stop 101 = .ok (.iastore, 1) := by decide +kernel
theorem dX5_stop_102 : decode cX5_stop 102 = .ok (.iload_n 1, 1) := by decide +kernel
theorem dX5_stop_103 : decode cX5_stop 103 = .ok (.ireturn, 1) := by decide +kernel
theorem dX5_mostOf_0 : decode cX5_mostOf 0 = .ok (.iload_n 0, 1) := by decide +kernel
theorem dX5_mostOf_1 : decode cX5_mostOf 1 = .ok (.ifCond .ne 8, 3) := by decide +kernel
theorem dX5_mostOf_4 : decode cX5_mostOf 4 = .ok (.bipush 60, 2) := by decide +kernel
theorem dX5_mostOf_6 : decode cX5_mostOf 6 = .ok (.goto 16, 3) := by decide +kernel
theorem dX5_mostOf_9 : decode cX5_mostOf 9 = .ok (.iload_n 0, 1) := by decide +kernel
theorem dX5_mostOf_10 : decode cX5_mostOf 10 = .ok (.iconst 1, 1) := by decide +kernel
theorem dX5_mostOf_11 : decode cX5_mostOf 11 = .ok (.if_icmp .ne 9, 3) := by decide +kernel
theorem dX5_mostOf_14 : decode cX5_mostOf 14 = .ok (.sipush 200, 3) := by decide +kernel
theorem dX5_mostOf_17 : decode cX5_mostOf 17 = .ok (.goto 5, 3) := by decide +kernel
theorem dX5_mostOf_20 : decode cX5_mostOf 20 = .ok (.bipush 50, 2) := by decide +kernel
theorem dX5_mostOf_22 : decode cX5_mostOf 22 = .ok (.ireturn, 1) := by decide +kernel
set_option maxRecDepth 20000 in
theorem ggX5_set_X5_in : GoodIn wsX5_set wsX5_in := goodIn_r _ [6] (by decide +kernel) (by decide +kernel)
set_option maxRecDepth 20000 in
theorem gX5_set_X5_in : GoodIn wsX5_set (va_wsS RX5 61 yX5_in wsX5_in) := goodIn_app (goodIn_of _ (by decide +kernel)) ggX5_set_X5_in
set_option maxRecDepth 20000 in
theorem ggX5_set_X5_mostOf : GoodIn wsX5_set wsX5_mostOf := goodIn_r _ [9] (by decide +kernel) (by decide +kernel)
set_option maxRecDepth 20000 in
theorem gX5_set_X5_mostOf : GoodIn wsX5_set (va_wsS RX5 147 yX5_mostOf wsX5_mostOf) := goodIn_app (goodIn_of _ (by decide +kernel)) ggX5_set_X5_mostOf
set_option maxRecDepth 20000 in
theorem ggX5_set_X5_changes : GoodIn wsX5_set wsX5_changes := goodIn_r _ [13, 14, 15, 2, 16, 17, 18, 19, 20, 21, 22, 23, 24, 25, 26, 27, 28] (by decide +kernel) (by decide +kernel)
set_option maxRecDepth 20000 in
theorem gX5_set_X5_changes : GoodIn wsX5_set (wsV RX5 102 RX5 yX5_changes wsX5_changes) := goodIn_app (goodIn_of _ (by decide +kernel)) ggX5_set_X5_changes
theorem dX5_set_0 : decode cX5_set 0 = .ok (.iload_n 1, 1) := by decide +kernel
theorem dX5_set_1 : decode cX5_set 1 = .ok (.iconst 0, 1) := by decide +kernel
theorem dX5_set_2 : decode cX5_set 2 = .ok (.iconst 2, 1) := by decide +kernel
theorem dX5_set_3 : decode cX5_set 3 = .ok (.invokestatic 61, 3) := by decide +kernel
theorem dX5_set_6 : decode cX5_set 6 = .ok (.ifCond .eq 23, 3) := by decide +kernel
theorem dX5_set_9 : decode cX5_set 9 = .ok (.iload_n 2, 1) := by decide +kernel
theorem dX5_set_10 : decode cX5_set 10 = .ok (.iload_n 1, 1) := by decide +kernel
theorem dX5_set_11 : decode cX5_set 11 = .ok (.ifCond .ne 7, 3) := by decide +kernel
theorem dX5_set_14 : decode cX5_set 14 = .ok (.iconst 4, 1) := by decide +kernel
theorem dX5_set_15 : decode cX5_set 15 = .ok (.goto 4, 3) := by decide +kernel
theorem dX5_set_18 : decode cX5_set 18 = .ok (.iconst 1, 1) := by decide +kernel
theorem dX5_set_19 : decode cX5_set 19 = .ok (.iload_n 1, 1) := by decide +kernel
theorem dX5_set_20 : decode cX5_set 20 = .ok (.invokestatic 147, 3) := by decide +kernel
theorem dX5_set_23 : decode cX5_set 23 = .ok (.invokestatic 61, 3) := by decide +kernel
theorem dX5_set_26 : decode cX5_set 26 = .ok (.ifCond .ne 6, 3) := by decide +kernel
theorem dX5_set_29 : decode cX5_set 29 = .ok (.ldc 92, 2) := by decide +kernel
theorem dX5_set_31 : decode cX5_set 31 = .ok (.ireturn, 1) := by decide +kernel
theorem dX5_set_32 : decode cX5_set 32 = .ok (.aload_n 0, 1) := by decide +kernel
theorem dX5_set_33 : decode cX5_set 33 = .ok (.invokevirtual 102, 3) := by decide +kernel
theorem dX5_set_36 : decode cX5_set 36 = .ok (.aload_n 0, 1) := by decide +kernel
theorem dX5_set_37 : decode cX5_set 37 = .ok (.getfield 7, 3) := by decide +kernel
theorem dX5_set_40 : decode cX5_set 40 = .ok (.bipush 8, 2) := by decide +kernel
theorem dX5_set_42 : decode cX5_set 42 = .ok (.iload_n 1, 1) := by decide +kernel
theorem dX5_set_43 : decode cX5_set 43 = .ok (.iadd, 1) := by decide +kernel
theorem dX5_set_44 : decode cX5_set 44 = .ok (.iaload, 1) := by decide +kernel
theorem dX5_set_45 : decode cX5_set 45 = .ok (.istore_n 3, 1) := by decide +kernel
theorem dX5_set_46 : decode cX5_set 46 = .ok (.aload_n 0, 1) := by decide +kernel
theorem dX5_set_47 : decode cX5_set 47 = .ok (.getfield 7, 3) := by decide +kernel
theorem dX5_set_50 : decode cX5_set 50 = .ok (.bipush 8, 2) := by decide +kernel
theorem dX5_set_52 : decode cX5_set 52 = .ok (.iload_n 1, 1) := by decide +kernel
theorem dX5_set_53 : decode cX5_set 53 = .ok (.iadd, 1) := by decide +kernel
theorem dX5_set_54 : decode cX5_set 54 = .ok (.iload_n 2, 1) := by decide +kernel
theorem dX5_set_55 : decode cX5_set 55 = .ok (.iastore, 1) := by decide +kernel
theorem dX5_set_56 : decode cX5_set 56 = .ok (.iload_n 3, 1) := by decide +kernel
theorem dX5_set_57 : decode cX5_set 57 = .ok (.ireturn, 1) := by decide +kernel
set_option maxRecDepth 20000 in
theorem ggX5_routesOf_X5_ofRoute : GoodIn wsX5_routesOf wsX5_ofRoute := goodIn_r _ [6, 1, 7, 8, 9, 10, 11, 12, 13, 14, 15, 16, 17, 18, 19] (by decide +kernel) (by decide +kernel)
set_option maxRecDepth 20000 in
theorem gX5_routesOf_X5_ofRoute : GoodIn wsX5_routesOf (wsV RX5 109 RX5 yX5_ofRoute wsX5_ofRoute) := goodIn_app (goodIn_of _ (by decide +kernel)) ggX5_routesOf_X5_ofRoute
theorem dX5_routesOf_0 : decode cX5_routesOf 0 = .ok (.iconst 0, 1) := by decide +kernel
theorem dX5_routesOf_1 : decode cX5_routesOf 1 = .ok (.istore_n 2, 1) := by decide +kernel
theorem dX5_routesOf_2 : decode cX5_routesOf 2 = .ok (.iconst 0, 1) := by decide +kernel
theorem dX5_routesOf_3 : decode cX5_routesOf 3 = .ok (.istore_n 3, 1) := by decide +kernel
theorem dX5_routesOf_4 : decode cX5_routesOf 4 = .ok (.iload_n 3, 1) := by decide +kernel
theorem dX5_routesOf_5 : decode cX5_routesOf 5 = .ok (.aload_n 0, 1) := by decide +kernel
theorem dX5_routesOf_6 : decode cX5_routesOf 6 = .ok (.getfield 7, 3) := by decide +kernel
theorem dX5_routesOf_9 : decode cX5_routesOf 9 = .ok (.iconst 2, 1) := by decide +kernel
theorem dX5_routesOf_10 : decode cX5_routesOf 10 = .ok (.iaload, 1) := by decide +kernel
theorem dX5_routesOf_11 : decode cX5_routesOf 11 = .ok (.if_icmp .ge 24, 3) := by decide +kernel
theorem dX5_routesOf_14 : decode cX5_routesOf 14 = .ok (.iload_n 2, 1) := by decide +kernel
theorem dX5_routesOf_15 : decode cX5_routesOf 15 = .ok (.aload_n 0, 1) := by decide +kernel
theorem dX5_routesOf_16 : decode cX5_routesOf 16 = .ok (.iload_n 3, 1) := by decide +kernel
theorem dX5_routesOf_17 : decode cX5_routesOf 17 = .ok (.iconst 0, 1) := by decide +kernel
theorem dX5_routesOf_18 : decode cX5_routesOf 18 = .ok (.invokevirtual 109, 3) := by decide +kernel
theorem dX5_routesOf_21 : decode cX5_routesOf 21 = .ok (.iload_n 1, 1) := by decide +kernel
theorem dX5_routesOf_22 : decode cX5_routesOf 22 = .ok (.ishr, 1) := by decide +kernel
theorem dX5_routesOf_23 : decode cX5_routesOf 23 = .ok (.iconst 1, 1) := by decide +kernel
theorem dX5_routesOf_24 : decode cX5_routesOf 24 = .ok (.iand, 1) := by decide +kernel
theorem dX5_routesOf_25 : decode cX5_routesOf 25 = .ok (.iload_n 3, 1) := by decide +kernel
theorem dX5_routesOf_26 : decode cX5_routesOf 26 = .ok (.ishl, 1) := by decide +kernel
theorem dX5_routesOf_27 : decode cX5_routesOf 27 = .ok (.ior, 1) := by decide +kernel
theorem dX5_routesOf_28 : decode cX5_routesOf 28 = .ok (.istore_n 2, 1) := by decide +kernel
theorem dX5_routesOf_29 : decode cX5_routesOf 29 = .ok (.iinc 3 1, 3) := by decide +kernel
theorem dX5_routesOf_32 : decode cX5_routesOf 32 = .ok (.goto (-28), 3) := by decide +kernel
theorem dX5_routesOf_35 : decode cX5_routesOf 35 = .ok (.iload_n 2, 1) := by decide +kernel
theorem dX5_routesOf_36 : decode cX5_routesOf 36 = .ok (.ireturn, 1) := by decide +kernel
set_option maxRecDepth 20000 in
theorem ggX5_rowOf_X5_isRow : GoodIn wsX5_rowOf wsX5_isRow := goodIn_r _ [7, 2, 46, 47, 48, 49, 50, 51, 52, 53, 54, 55, 56, 57, 58] (by decide +kernel) (by decide +kernel)
set_option maxRecDepth 20000 in
theorem gX5_rowOf_X5_isRow : GoodIn wsX5_rowOf (wsV RX5 105 RX5 yX5_isRow wsX5_isRow) := goodIn_app (goodIn_of _ (by decide +kernel)) ggX5_rowOf_X5_isRow
set_option maxRecDepth 20000 in
theorem ggX5_rowOf_X5_in : GoodIn wsX5_rowOf wsX5_in := goodIn_r _ [10] (by decide +kernel) (by decide +kernel)
set_option maxRecDepth 20000 in
theorem gX5_rowOf_X5_in : GoodIn wsX5_rowOf (va_wsS RX5 61 yX5_in wsX5_in) := goodIn_app (goodIn_of _ (by decide +kernel)) ggX5_rowOf_X5_in
set_option maxRecDepth 20000 in
theorem ggX5_rowOf_X5_of : GoodIn wsX5_rowOf wsX5_of := goodIn_r _ [14, 2, 46, 47, 48, 49, 50, 51, 52, 53, 54, 55, 56, 57, 58] (by decide +kernel) (by decide +kernel)
set_option maxRecDepth 20000 in
theorem gX5_rowOf_X5_of : GoodIn wsX5_rowOf (wsV RX5 26 RX5 yX5_of wsX5_of) := goodIn_app (goodIn_of _ (by decide +kernel)) ggX5_rowOf_X5_of
set_option maxRecDepth 20000 in
theorem ggX5_rowOf_X5_width : GoodIn wsX5_rowOf wsX5_width := goodIn_r _ [18, 11, 12, 13, 6, 14, 2, 19, 20, 21, 46, 47, 48, 49, 50, 51, 52, 53, 54, 55, 56, 57, 58] (by decide +kernel) (by decide +kernel)
set_option maxRecDepth 20000 in
theorem gX5_rowOf_X5_width : GoodIn wsX5_rowOf (wsV RX5 141 RX5 yX5_width wsX5_width) := goodIn_app (goodIn_of _ (by decide +kernel)) ggX5_rowOf_X5_width
set_option maxRecDepth 20000 in
theorem ggX5_rowOf_X5_squeezed : GoodIn wsX5_rowOf wsX5_squeezed := goodIn_r _ [25, 2, 46, 47, 48, 49, 50, 51, 52, 53, 54, 55, 56, 57, 58] (by decide +kernel) (by decide +kernel)
set_option maxRecDepth 20000 in
theorem gX5_rowOf_X5_squeezed : GoodIn wsX5_rowOf (wsV RX5 79 RX5 yX5_squeezed wsX5_squeezed) := goodIn_app (goodIn_of _ (by decide +kernel)) ggX5_rowOf_X5_squeezed
set_option maxRecDepth 20000 in
theorem ggX5_rowOf_X5_kind : GoodIn wsX5_rowOf wsX5_kind := goodIn_r _ [29, 30, 31, 32, 33, 34, 35, 6, 36, 37, 11, 12, 13, 14, 2, 46, 47, 48, 49, 50, 51, 52, 53, 54, 55, 56, 57, 58] (by decide +kernel) (by decide +kernel)
set_option maxRecDepth 20000 in
theorem gX5_rowOf_X5_kind : GoodIn wsX5_rowOf (wsV RX5 138 RX5 yX5_kind wsX5_kind) := goodIn_app (goodIn_of _ (by decide +kernel)) ggX5_rowOf_X5_kind
set_option maxRecDepth 20000 in
theorem ggX5_rowOf_X5_routesOf : GoodIn wsX5_rowOf wsX5_routesOf := goodIn_r _ [41, 2, 42, 43, 44, 6, 45, 46, 47, 48, 49, 50, 51, 52, 53, 54, 55, 56, 57, 58] (by decide +kernel) (by decide +kernel)
set_option maxRecDepth 20000 in
theorem gX5_rowOf_X5_routesOf : GoodIn wsX5_rowOf (wsV RX5 150 RX5 yX5_routesOf wsX5_routesOf) := goodIn_app (goodIn_of _ (by decide +kernel)) ggX5_rowOf_X5_routesOf
theorem dX5_rowOf_0 : decode cX5_rowOf 0 = .ok (.aload_n 0, 1) := by decide +kernel
theorem dX5_rowOf_1 : decode cX5_rowOf 1 = .ok (.iload_n 1, 1) := by decide +kernel
theorem dX5_rowOf_2 : decode cX5_rowOf 2 = .ok (.invokevirtual 105, 3) := by decide +kernel
theorem dX5_rowOf_5 : decode cX5_rowOf 5 = .ok (.ifCond .eq 13, 3) := by decide +kernel
theorem dX5_rowOf_8 : decode cX5_rowOf 8 = .ok (.iload_n 2, 1) := by decide +kernel
theorem dX5_rowOf_9 : decode cX5_rowOf 9 = .ok (.iconst 0, 1) := by decide +kernel
theorem dX5_rowOf_10 : decode cX5_rowOf 10 = .ok (.bipush 7, 2) := by decide +kernel
theorem dX5_rowOf_12 : decode cX5_rowOf 12 = .ok (.invokestatic 61, 3) := by decide +kernel
theorem dX5_rowOf_15 : decode cX5_rowOf 15 = .ok (.ifCond .ne 6, 3) := by decide +kernel
theorem dX5_rowOf_18 : decode cX5_rowOf 18 = .ok (.ldc 92, 2) := by decide +kernel
theorem dX5_rowOf_20 : decode cX5_rowOf 20 = .ok (.ireturn, 1) := by decide +kernel
theorem dX5_rowOf_21 : decode cX5_rowOf 21 = .ok (.iload_n 2, 1) := by decide +kernel
theorem dX5_rowOf_22 : decode cX5_rowOf 22 = .ok (.tableswitch 91 0 6 #[42, 49, 55, 65, 71, 78, 85], 42) := by decide +kernel
theorem dX5_rowOf_64 : decode cX5_rowOf 64 = .ok (.aload_n 0, 1) := by decide +kernel
theorem dX5_rowOf_65 : decode cX5_rowOf 65 = .ok (.iload_n 1, 1) := by decide +kernel
theorem dX5_rowOf_66 : decode cX5_rowOf 66 = .ok (.iconst 0, 1) := by decide +kernel
theorem dX5_rowOf_67 : decode cX5_rowOf 67 = .ok (.invokevirtual 26, 3) := by decide +kernel
theorem dX5_rowOf_70 : decode cX5_rowOf 70 = .ok (.ireturn, 1) := by decide +kernel
theorem dX5_rowOf_71 : decode cX5_rowOf 71 = .ok (.aload_n 0, 1) := by decide +kernel
theorem dX5_rowOf_72 : decode cX5_rowOf 72 = .ok (.iload_n 1, 1) := by decide +kernel
theorem dX5_rowOf_73 : decode cX5_rowOf 73 = .ok (.invokevirtual 141, 3) := by decide +kernel
theorem dX5_rowOf_76 : decode cX5_rowOf 76 = .ok (.ireturn, 1) := by decide +kernel
theorem dX5_rowOf_77 : decode cX5_rowOf 77 = .ok (.aload_n 0, 1) := by decide +kernel
theorem dX5_rowOf_78 : decode cX5_rowOf 78 = .ok (.aload_n 0, 1) := by decide +kernel
theorem dX5_rowOf_79 : decode cX5_rowOf 79 = .ok (.iload_n 1, 1) := by decide +kernel
theorem dX5_rowOf_80 : decode cX5_rowOf 80 = .ok (.invokevirtual 141, 3) := by decide +kernel
theorem dX5_rowOf_83 : decode cX5_rowOf 83 = .ok (.invokevirtual 79, 3) := by decide +kernel
theorem dX5_rowOf_86 : decode cX5_rowOf 86 = .ok (.ireturn, 1) := by decide +kernel
theorem dX5_rowOf_87 : decode cX5_rowOf 87 = .ok (.aload_n 0, 1) := by decide +kernel
theorem dX5_rowOf_88 : decode cX5_rowOf 88 = .ok (.iload_n 1, 1) := by decide +kernel
theorem dX5_rowOf_89 : decode cX5_rowOf 89 = .ok (.invokevirtual 138, 3) := by decide +kernel
theorem dX5_rowOf_92 : decode cX5_rowOf 92 = .ok (.ireturn, 1) := by decide +kernel
theorem dX5_rowOf_93 : decode cX5_rowOf 93 = .ok (.aload_n 0, 1) := by decide +kernel
theorem dX5_rowOf_94 : decode cX5_rowOf 94 = .ok (.iload_n 1, 1) := by decide +kernel
theorem dX5_rowOf_95 : decode cX5_rowOf 95 = .ok (.iconst 1, 1) := by decide +kernel
theorem dX5_rowOf_96 : decode cX5_rowOf 96 = .ok (.invokevirtual 26, 3) := by decide +kernel
theorem dX5_rowOf_99 : decode cX5_rowOf 99 = .ok (.ireturn, 1) := by decide +kernel
theorem dX5_rowOf_100 : decode cX5_rowOf 100 = .ok (.aload_n 0, 1) := by decide +kernel
theorem dX5_rowOf_101 : decode cX5_rowOf 101 = .ok (.iload_n 1, 1) := by decide +kernel
theorem dX5_rowOf_102 : decode cX5_rowOf 102 = .ok (.iconst 2, 1) := by decide +kernel
theorem dX5_rowOf_103 : decode cX5_rowOf 103 = .ok (.invokevirtual 26, 3) := by decide +kernel
theorem dX5_rowOf_106 : decode cX5_rowOf 106 = .ok (.ireturn, 1) := by decide +kernel
theorem dX5_rowOf_107 : decode cX5_rowOf 107 = .ok (.aload_n 0, 1) := by decide +kernel
theorem dX5_rowOf_108 : decode cX5_rowOf 108 = .ok (.iload_n 1, 1) := by decide +kernel
theorem dX5_rowOf_109 : decode cX5_rowOf 109 = .ok (.invokevirtual 150, 3) := by decide +kernel
theorem dX5_rowOf_112 : decode cX5_rowOf 112 = .ok (.ireturn, 1) := by decide +kernel
theorem dX5_rowOf_113 : decode cX5_rowOf 113 = .ok (.aload_n 0, 1) := by decide +kernel
theorem dX5_rowOf_114 : decode cX5_rowOf 114 = .ok (.getfield 7, 3) := by decide +kernel
theorem dX5_rowOf_117 : decode cX5_rowOf 117 = .ok (.iconst 1, 1) := by decide +kernel
theorem dX5_rowOf_118 : decode cX5_rowOf 118 = .ok (.iaload, 1) := by decide +kernel
theorem dX5_rowOf_119 : decode cX5_rowOf 119 = .ok (.iload_n 1, 1) := by decide +kernel
theorem dX5_rowOf_120 : decode cX5_rowOf 120 = .ok (.if_icmp .ne 7, 3) := by decide +kernel
theorem dX5_rowOf_123 : decode cX5_rowOf 123 = .ok (.iconst 1, 1) := by decide +kernel
theorem dX5_rowOf_124 : decode cX5_rowOf 124 = .ok (.goto 4, 3) := by decide +kernel
theorem dX5_rowOf_127 : decode cX5_rowOf 127 = .ok (.iconst 0, 1) := by decide +kernel
theorem dX5_rowOf_128 : decode cX5_rowOf 128 = .ok (.ireturn, 1) := by decide +kernel
set_option maxRecDepth 20000 in
theorem ggX5_letter_X5_isRow : GoodIn wsX5_letter wsX5_isRow := goodIn_r _ [7, 8, 13, 14, 15, 16, 17, 18, 19, 20, 21, 22, 23, 24, 25] (by decide +kernel) (by decide +kernel)
set_option maxRecDepth 20000 in
theorem gX5_letter_X5_isRow : GoodIn wsX5_letter (wsV RX5 105 RX5 yX5_isRow wsX5_isRow) := goodIn_app (goodIn_of _ (by decide +kernel)) ggX5_letter_X5_isRow
set_option maxRecDepth 20000 in
theorem ggX5_letter_X5_of : GoodIn wsX5_letter wsX5_of := goodIn_r _ [12, 8, 13, 14, 15, 16, 17, 18, 19, 20, 21, 22, 23, 24, 25] (by decide +kernel) (by decide +kernel)
set_option maxRecDepth 20000 in
theorem gX5_letter_X5_of : GoodIn wsX5_letter (wsV RX5 26 RX5 yX5_of wsX5_of) := goodIn_app (goodIn_of _ (by decide +kernel)) ggX5_letter_X5_of
theorem dX5_letter_0 : decode cX5_letter 0 = .ok (.aload_n 0, 1) := by decide +kernel
theorem dX5_letter_1 : decode cX5_letter 1 = .ok (.iload_n 1, 1) := by decide +kernel
theorem dX5_letter_2 : decode cX5_letter 2 = .ok (.invokevirtual 105, 3) := by decide +kernel
theorem dX5_letter_5 : decode cX5_letter 5 = .ok (.ifCond .eq 7, 3) := by decide +kernel
theorem dX5_letter_8 : decode cX5_letter 8 = .ok (.iload_n 2, 1) := by decide +kernel
theorem dX5_letter_9 : decode cX5_letter 9 = .ok (.ifCond .ge 6, 3) := by decide +kernel
theorem dX5_letter_12 : decode cX5_letter 12 = .ok (.ldc 92, 2) := by decide +kernel
theorem dX5_letter_14 : decode cX5_letter 14 = .ok (.ireturn, 1) := by decide +kernel
theorem dX5_letter_15 : decode cX5_letter 15 = .ok (.iload_n 2, 1) := by decide +kernel
theorem dX5_letter_16 : decode cX5_letter 16 = .ok (.aload_n 0, 1) := by decide +kernel
theorem dX5_letter_17 : decode cX5_letter 17 = .ok (.iload_n 1, 1) := by decide +kernel
theorem dX5_letter_18 : decode cX5_letter 18 = .ok (.iconst 0, 1) := by decide +kernel
theorem dX5_letter_19 : decode cX5_letter 19 = .ok (.invokevirtual 26, 3) := by decide +kernel
theorem dX5_letter_22 : decode cX5_letter 22 = .ok (.if_icmp .ge 14, 3) := by decide +kernel
theorem dX5_letter_25 : decode cX5_letter 25 = .ok (.aload_n 0, 1) := by decide +kernel
theorem dX5_letter_26 : decode cX5_letter 26 = .ok (.iload_n 1, 1) := by decide +kernel
theorem dX5_letter_27 : decode cX5_letter 27 = .ok (.iconst 3, 1) := by decide +kernel
theorem dX5_letter_28 : decode cX5_letter 28 = .ok (.iload_n 2, 1) := by decide +kernel
theorem dX5_letter_29 : decode cX5_letter 29 = .ok (.iadd, 1) := by decide +kernel
theorem dX5_letter_30 : decode cX5_letter 30 = .ok (.invokevirtual 26, 3) := by decide +kernel
theorem dX5_letter_33 : decode cX5_letter 33 = .ok (.goto 5, 3) := by decide +kernel
theorem dX5_letter_36 : decode cX5_letter 36 = .ok (.ldc 100, 2) := by decide +kernel
theorem dX5_letter_38 : decode cX5_letter 38 = .ok (.ireturn, 1) := by decide +kernel
set_option maxRecDepth 20000 in
theorem ggX5_tornOnes_X5_of : GoodIn wsX5_tornOnes wsX5_of := goodIn_r _ [6, 1, 7, 8, 9, 10, 11, 12, 13, 14, 15, 16, 17, 18, 19] (by decide +kernel) (by decide +kernel)
set_option maxRecDepth 20000 in
theorem gX5_tornOnes_X5_of : GoodIn wsX5_tornOnes (wsV RX5 26 RX5 yX5_of wsX5_of) := goodIn_app (goodIn_of _ (by decide +kernel)) ggX5_tornOnes_X5_of
theorem dX5_tornOnes_0 : decode cX5_tornOnes 0 = .ok (.iconst 0, 1) := by decide +kernel
theorem dX5_tornOnes_1 : decode cX5_tornOnes 1 = .ok (.istore_n 1, 1) := by decide +kernel
theorem dX5_tornOnes_2 : decode cX5_tornOnes 2 = .ok (.iconst 0, 1) := by decide +kernel
theorem dX5_tornOnes_3 : decode cX5_tornOnes 3 = .ok (.istore_n 2, 1) := by decide +kernel
theorem dX5_tornOnes_4 : decode cX5_tornOnes 4 = .ok (.iload_n 2, 1) := by decide +kernel
theorem dX5_tornOnes_5 : decode cX5_tornOnes 5 = .ok (.aload_n 0, 1) := by decide +kernel
theorem dX5_tornOnes_6 : decode cX5_tornOnes 6 = .ok (.getfield 7, 3) := by decide +kernel
theorem dX5_tornOnes_9 : decode cX5_tornOnes 9 = .ok (.iconst 0, 1) := by decide +kernel
theorem dX5_tornOnes_10 : decode cX5_tornOnes 10 = .ok (.iaload, 1) := by decide +kernel
theorem dX5_tornOnes_11 : decode cX5_tornOnes 11 = .ok (.if_icmp .ge 20, 3) := by decide +kernel
theorem dX5_tornOnes_14 : decode cX5_tornOnes 14 = .ok (.iload_n 1, 1) := by decide +kernel
theorem dX5_tornOnes_15 : decode cX5_tornOnes 15 = .ok (.aload_n 0, 1) := by decide +kernel
theorem dX5_tornOnes_16 : decode cX5_tornOnes 16 = .ok (.iload_n 2, 1) := by decide +kernel
theorem dX5_tornOnes_17 : decode cX5_tornOnes 17 = .ok (.iconst 2, 1) := by decide +kernel
theorem dX5_tornOnes_18 : decode cX5_tornOnes 18 = .ok (.invokevirtual 26, 3) := by decide +kernel
theorem dX5_tornOnes_21 : decode cX5_tornOnes 21 = .ok (.iload_n 2, 1) := by decide +kernel
theorem dX5_tornOnes_22 : decode cX5_tornOnes 22 = .ok (.ishl, 1) := by decide +kernel
theorem dX5_tornOnes_23 : decode cX5_tornOnes 23 = .ok (.ior, 1) := by decide +kernel
theorem dX5_tornOnes_24 : decode cX5_tornOnes 24 = .ok (.istore_n 1, 1) := by decide +kernel
theorem dX5_tornOnes_25 : decode cX5_tornOnes 25 = .ok (.iinc 2 1, 3) := by decide +kernel
theorem dX5_tornOnes_28 : decode cX5_tornOnes 28 = .ok (.goto (-24), 3) := by decide +kernel
theorem dX5_tornOnes_31 : decode cX5_tornOnes 31 = .ok (.iload_n 1, 1) := by decide +kernel
theorem dX5_tornOnes_32 : decode cX5_tornOnes 32 = .ok (.ireturn, 1) := by decide +kernel
set_option maxRecDepth 20000 in
theorem ggX5_routeOf_X5_isRoute : GoodIn wsX5_routeOf wsX5_isRoute := goodIn_r _ [6, 7, 26, 27, 28, 29, 30, 31, 32, 33, 34, 35, 36, 37, 38] (by decide +kernel) (by decide +kernel)
set_option maxRecDepth 20000 in
theorem gX5_routeOf_X5_isRoute : GoodIn wsX5_routeOf (wsV RX5 135 RX5 yX5_isRoute wsX5_isRoute) := goodIn_app (goodIn_of _ (by decide +kernel)) ggX5_routeOf_X5_isRoute
set_option maxRecDepth 20000 in
theorem ggX5_routeOf_X5_in : GoodIn wsX5_routeOf wsX5_in := goodIn_r _ [10] (by decide +kernel) (by decide +kernel)
set_option maxRecDepth 20000 in
theorem gX5_routeOf_X5_in : GoodIn wsX5_routeOf (va_wsS RX5 61 yX5_in wsX5_in) := goodIn_app (goodIn_of _ (by decide +kernel)) ggX5_routeOf_X5_in
set_option maxRecDepth 20000 in
theorem ggX5_routeOf_X5_ofRoute : GoodIn wsX5_routeOf wsX5_ofRoute := goodIn_r _ [14, 7, 26, 27, 28, 29, 30, 31, 32, 33, 34, 35, 36, 37, 38] (by decide +kernel) (by decide +kernel)
set_option maxRecDepth 20000 in
theorem gX5_routeOf_X5_ofRoute : GoodIn wsX5_routeOf (wsV RX5 109 RX5 yX5_ofRoute wsX5_ofRoute) := goodIn_app (goodIn_of _ (by decide +kernel)) ggX5_routeOf_X5_ofRoute
set_option maxRecDepth 20000 in
theorem ggX5_routeOf_X5_ones : GoodIn wsX5_routeOf wsX5_ones := goodIn_r _ [17] (by decide +kernel) (by decide +kernel)
set_option maxRecDepth 20000 in
theorem gX5_routeOf_X5_ones : GoodIn wsX5_routeOf (va_wsS RX5 153 yX5_ones wsX5_ones) := goodIn_app (goodIn_of _ (by decide +kernel)) ggX5_routeOf_X5_ones
set_option maxRecDepth 20000 in
theorem ggX5_routeOf_X5_tornOnes : GoodIn wsX5_routeOf wsX5_tornOnes := goodIn_r _ [21, 7, 22, 23, 24, 5, 25, 26, 27, 28, 29, 30, 31, 32, 33, 34, 35, 36, 37, 38] (by decide +kernel) (by decide +kernel)
set_option maxRecDepth 20000 in
theorem gX5_routeOf_X5_tornOnes : GoodIn wsX5_routeOf (wsV RX5 156 RX5 yX5_tornOnes wsX5_tornOnes) := goodIn_app (goodIn_of _ (by decide +kernel)) ggX5_routeOf_X5_tornOnes
theorem dX5_routeOf_0 : decode cX5_routeOf 0 = .ok (.aload_n 0, 1) := by decide +kernel
theorem dX5_routeOf_1 : decode cX5_routeOf 1 = .ok (.iload_n 1, 1) := by decide +kernel
theorem dX5_routeOf_2 : decode cX5_routeOf 2 = .ok (.invokevirtual 135, 3) := by decide +kernel
theorem dX5_routeOf_5 : decode cX5_routeOf 5 = .ok (.ifCond .eq 12, 3) := by decide +kernel
theorem dX5_routeOf_8 : decode cX5_routeOf 8 = .ok (.iload_n 2, 1) := by decide +kernel
theorem dX5_routeOf_9 : decode cX5_routeOf 9 = .ok (.iconst 0, 1) := by decide +kernel
theorem dX5_routeOf_10 : decode cX5_routeOf 10 = .ok (.iconst 4, 1) := by decide +kernel
theorem dX5_routeOf_11 : decode cX5_routeOf 11 = .ok (.invokestatic 61, 3) := by decide +kernel
theorem dX5_routeOf_14 : decode cX5_routeOf 14 = .ok (.ifCond .ne 6, 3) := by decide +kernel
theorem dX5_routeOf_17 : decode cX5_routeOf 17 = .ok (.ldc 92, 2) := by decide +kernel
theorem dX5_routeOf_19 : decode cX5_routeOf 19 = .ok (.ireturn, 1) := by decide +kernel
theorem dX5_routeOf_20 : decode cX5_routeOf 20 = .ok (.aload_n 0, 1) := by decide +kernel
theorem dX5_routeOf_21 : decode cX5_routeOf 21 = .ok (.iload_n 1, 1) := by decide +kernel
theorem dX5_routeOf_22 : decode cX5_routeOf 22 = .ok (.iconst 0, 1) := by decide +kernel
theorem dX5_routeOf_23 : decode cX5_routeOf 23 = .ok (.invokevirtual 109, 3) := by decide +kernel
theorem dX5_routeOf_26 : decode cX5_routeOf 26 = .ok (.istore_n 3, 1) := by decide +kernel
theorem dX5_routeOf_27 : decode cX5_routeOf 27 = .ok (.iload_n 2, 1) := by decide +kernel
theorem dX5_routeOf_28 : decode cX5_routeOf 28 = .ok (.ifCond .ne 7, 3) := by decide +kernel
theorem dX5_routeOf_31 : decode cX5_routeOf 31 = .ok (.iload_n 3, 1) := by decide +kernel
theorem dX5_routeOf_32 : decode cX5_routeOf 32 = .ok (.goto 37, 3) := by decide +kernel
theorem dX5_routeOf_35 : decode cX5_routeOf 35 = .ok (.iload_n 2, 1) := by decide +kernel
theorem dX5_routeOf_36 : decode cX5_routeOf 36 = .ok (.iconst 1, 1) := by decide +kernel
theorem dX5_routeOf_37 : decode cX5_routeOf 37 = .ok (.if_icmp .ne 10, 3) := by decide +kernel
theorem dX5_routeOf_40 : decode cX5_routeOf 40 = .ok (.iload_n 3, 1) := by decide +kernel
theorem dX5_routeOf_41 : decode cX5_routeOf 41 = .ok (.invokestatic 153, 3) := by decide +kernel
theorem dX5_routeOf_44 : decode cX5_routeOf 44 = .ok (.goto 25, 3) := by decide +kernel
theorem dX5_routeOf_47 : decode cX5_routeOf 47 = .ok (.iload_n 2, 1) := by decide +kernel
theorem dX5_routeOf_48 : decode cX5_routeOf 48 = .ok (.iconst 2, 1) := by decide +kernel
theorem dX5_routeOf_49 : decode cX5_routeOf 49 = .ok (.if_icmp .ne 12, 3) := by decide +kernel
theorem dX5_routeOf_52 : decode cX5_routeOf 52 = .ok (.iload_n 3, 1) := by decide +kernel
theorem dX5_routeOf_53 : decode cX5_routeOf 53 = .ok (.aload_n 0, 1) := by decide +kernel
theorem dX5_routeOf_54 : decode cX5_routeOf 54 = .ok (.invokevirtual 156, 3) := by decide +kernel
theorem dX5_routeOf_57 : decode cX5_routeOf 57 = .ok (.iand, 1) := by decide +kernel
theorem dX5_routeOf_58 : decode cX5_routeOf 58 = .ok (.goto 11, 3) := by decide +kernel
theorem dX5_routeOf_61 : decode cX5_routeOf 61 = .ok (.aload_n 0, 1) := by decide +kernel
theorem dX5_routeOf_62 : decode cX5_routeOf 62 = .ok (.iload_n 1, 1) := by decide +kernel
theorem dX5_routeOf_63 : decode cX5_routeOf 63 = .ok (.iload_n 2, 1) := by decide +kernel
theorem dX5_routeOf_64 : decode cX5_routeOf 64 = .ok (.iconst 2, 1) := by decide +kernel
theorem dX5_routeOf_65 : decode cX5_routeOf 65 = .ok (.isub, 1) := by decide +kernel
theorem dX5_routeOf_66 : decode cX5_routeOf 66 = .ok (.invokevirtual 109, 3) := by decide +kernel
theorem dX5_routeOf_69 : decode cX5_routeOf 69 = .ok (.ireturn, 1) := by decide +kernel
set_option maxRecDepth 20000 in
theorem ggX5_would_X5_in : GoodIn wsX5_would wsX5_in := goodIn_r _ [9] (by decide +kernel) (by decide +kernel)
set_option maxRecDepth 20000 in
theorem gX5_would_X5_in : GoodIn wsX5_would (va_wsS RX5 61 yX5_in wsX5_in) := goodIn_app (goodIn_of _ (by decide +kernel)) ggX5_would_X5_in
set_option maxRecDepth 20000 in
theorem ggX5_would_X5_mayCrank : GoodIn wsX5_would wsX5_mayCrank := goodIn_r _ [13, 1, 2, 14, 6, 7, 8, 9, 42, 43, 44, 45, 46, 47, 48, 49, 50, 51, 52, 53, 54] (by decide +kernel) (by decide +kernel)
set_option maxRecDepth 20000 in
theorem gX5_would_X5_mayCrank : GoodIn wsX5_would (wsV RX5 128 RX5 yX5_mayCrank wsX5_mayCrank) := goodIn_app (goodIn_of _ (by decide +kernel)) ggX5_would_X5_mayCrank
set_option maxRecDepth 20000 in
theorem ggX5_would_X5_copies : GoodIn wsX5_would wsX5_copies := goodIn_r _ [17] (by decide +kernel) (by decide +kernel)
set_option maxRecDepth 20000 in
theorem gX5_would_X5_copies : GoodIn wsX5_would (va_wsS RX5 93 yX5_copies wsX5_copies) := goodIn_app (goodIn_of _ (by decide +kernel)) ggX5_would_X5_copies
set_option maxRecDepth 20000 in
theorem ggX5_would_X5_cranks : GoodIn wsX5_would wsX5_cranks := goodIn_r _ [21, 5, 4, 2, 22, 23, 24, 8, 25, 26, 27, 28, 29, 30, 31, 32, 33, 34, 35, 36, 37, 38, 39, 40, 41, 42, 43, 44, 45, 46, 47, 48, 49, 50, 51, 52, 53, 54] (by decide +kernel) (by decide +kernel)
set_option maxRecDepth 20000 in
theorem gX5_would_X5_cranks : GoodIn wsX5_would (wsV RX5 131 RX5 yX5_cranks wsX5_cranks) := goodIn_app (goodIn_of _ (by decide +kernel)) ggX5_would_X5_cranks
theorem dX5_would_0 : decode cX5_would 0 = .ok (.iload_n 3, 1) := by decide +kernel
theorem dX5_would_1 : decode cX5_would 1 = .ok (.iconst 0, 1) := by decide +kernel
theorem dX5_would_2 : decode cX5_would 2 = .ok (.iconst 3, 1) := by decide +kernel
theorem dX5_would_3 : decode cX5_would 3 = .ok (.invokestatic 61, 3) := by decide +kernel
theorem dX5_would_6 : decode cX5_would 6 = .ok (.ifCond .ne 6, 3) := by decide +kernel
theorem dX5_would_9 : decode cX5_would 9 = .ok (.ldc 92, 2) := by decide +kernel
theorem dX5_would_11 : decode cX5_would 11 = .ok (.ireturn, 1) := by decide +kernel
theorem dX5_would_12 : decode cX5_would 12 = .ok (.aload_n 0, 1) := by decide +kernel
theorem dX5_would_13 : decode cX5_would 13 = .ok (.iload_n 1, 1) := by decide +kernel
theorem dX5_would_14 : decode cX5_would 14 = .ok (.iload_n 2, 1) := by decide +kernel
theorem dX5_would_15 : decode cX5_would 15 = .ok (.invokevirtual 128, 3) := by decide +kernel
theorem dX5_would_18 : decode cX5_would 18 = .ok (.istore 4, 2) := by decide +kernel
theorem dX5_would_20 : decode cX5_would 20 = .ok (.iload 4, 2) := by decide +kernel
theorem dX5_would_22 : decode cX5_would 22 = .ok (.ifCond .ge 6, 3) := by decide +kernel
theorem dX5_would_25 : decode cX5_would 25 = .ok (.iload 4, 2) := by decide +kernel
theorem dX5_would_27 : decode cX5_would 27 = .ok (.ireturn, 1) := by decide +kernel
theorem dX5_would_28 : decode cX5_would 28 = .ok (.aload_n 0, 1) := by decide +kernel
theorem dX5_would_29 : decode cX5_would 29 = .ok (.getfield 7, 3) := by decide +kernel
theorem dX5_would_32 : decode cX5_would 32 = .ok (.aload_n 0, 1) := by decide +kernel
theorem dX5_would_33 : decode cX5_would 33 = .ok (.getfield 16, 3) := by decide +kernel
theorem dX5_would_36 : decode cX5_would 36 = .ok (.invokestatic 93, 3) := by decide +kernel
theorem dX5_would_39 : decode cX5_would 39 = .ok (.aload_n 0, 1) := by decide +kernel
theorem dX5_would_40 : decode cX5_would 40 = .ok (.iload_n 1, 1) := by decide +kernel
theorem dX5_would_41 : decode cX5_would 41 = .ok (.iload_n 2, 1) := by decide +kernel
theorem dX5_would_42 : decode cX5_would 42 = .ok (.invokevirtual 131, 3) := by decide +kernel
theorem dX5_would_45 : decode cX5_would 45 = .ok (.istore 5, 2) := by decide +kernel
theorem dX5_would_47 : decode cX5_would 47 = .ok (.iload_n 3, 1) := by decide +kernel
theorem dX5_would_48 : decode cX5_would 48 = .ok (.ifCond .ne 12, 3) := by decide +kernel
theorem dX5_would_51 : decode cX5_would 51 = .ok (.aload_n 0, 1) := by decide +kernel
theorem dX5_would_52 : decode cX5_would 52 = .ok (.getfield 7, 3) := by decide +kernel
theorem dX5_would_55 : decode cX5_would 55 = .ok (.iconst 1, 1) := by decide +kernel
theorem dX5_would_56 : decode cX5_would 56 = .ok (.iaload, 1) := by decide +kernel
theorem dX5_would_57 : decode cX5_would 57 = .ok (.goto 29, 3) := by decide +kernel
theorem dX5_would_60 : decode cX5_would 60 = .ok (.iload_n 3, 1) := by decide +kernel
theorem dX5_would_61 : decode cX5_would 61 = .ok (.iconst 1, 1) := by decide +kernel
theorem dX5_would_62 : decode cX5_would 62 = .ok (.if_icmp .ne 10, 3) := by decide +kernel
theorem dX5_would_65 : decode cX5_would 65 = .ok (.aload_n 0, 1) := by decide +kernel
theorem dX5_would_66 : decode cX5_would 66 = .ok (.getfield 121, 3) := by decide +kernel
theorem dX5_would_69 : decode cX5_would 69 = .ok (.goto 17, 3) := by decide +kernel
theorem dX5_would_72 : decode cX5_would 72 = .ok (.iload_n 3, 1) := by decide +kernel
theorem dX5_would_73 : decode cX5_would 73 = .ok (.iconst 2, 1) := by decide +kernel
theorem dX5_would_74 : decode cX5_would 74 = .ok (.if_icmp .ne 10, 3) := by decide +kernel
theorem dX5_would_77 : decode cX5_would 77 = .ok (.aload_n 0, 1) := by decide +kernel
theorem dX5_would_78 : decode cX5_would 78 = .ok (.getfield 118, 3) := by decide +kernel
theorem dX5_would_81 : decode cX5_would 81 = .ok (.goto 5, 3) := by decide +kernel
theorem dX5_would_84 : decode cX5_would 84 = .ok (.iload 5, 2) := by decide +kernel
theorem dX5_would_86 : decode cX5_would 86 = .ok (.istore 6, 2) := by decide +kernel
theorem dX5_would_88 : decode cX5_would 88 = .ok (.aload_n 0, 1) := by decide +kernel
theorem dX5_would_89 : decode cX5_would 89 = .ok (.getfield 16, 3) := by decide +kernel
theorem dX5_would_92 : decode cX5_would 92 = .ok (.aload_n 0, 1) := by decide +kernel
theorem dX5_would_93 : decode cX5_would 93 = .ok (.getfield 7, 3) := by decide +kernel
theorem dX5_would_96 : decode cX5_would 96 = .ok (.invokestatic 93, 3) := by decide +kernel
theorem dX5_would_99 : decode cX5_would 99 = .ok (.iload 6, 2) := by decide +kernel
theorem dX5_would_101 : decode cX5_would 101 = .ok (.ireturn, 1) := by decide +kernel
set_option maxRecDepth 20000 in
theorem ggX5_nearest_X5_in : GoodIn wsX5_nearest wsX5_in := goodIn_r _ [7] (by decide +kernel) (by decide +kernel)
set_option maxRecDepth 20000 in
theorem gX5_nearest_X5_in : GoodIn wsX5_nearest (va_wsS RX5 61 yX5_in wsX5_in) := goodIn_app (goodIn_of _ (by decide +kernel)) ggX5_nearest_X5_in
set_option maxRecDepth 20000 in
theorem ggX5_nearest_X5_isRow : GoodIn wsX5_nearest wsX5_isRow := goodIn_r _ [11, 2, 51, 52, 53, 54, 55, 56, 57, 58, 59, 60, 61, 62, 63] (by decide +kernel) (by decide +kernel)
set_option maxRecDepth 20000 in
theorem gX5_nearest_X5_isRow : GoodIn wsX5_nearest (wsV RX5 105 RX5 yX5_isRow wsX5_isRow) := goodIn_app (goodIn_of _ (by decide +kernel)) ggX5_nearest_X5_isRow
set_option maxRecDepth 20000 in
theorem ggX5_nearest_X5_wrongBy : GoodIn wsX5_nearest wsX5_wrongBy := goodIn_r _ [15, 2, 16, 17, 18, 6, 19, 20, 21, 22, 23, 24, 25, 26, 27, 28, 29, 30, 31, 32, 33, 34, 35, 36, 37, 38, 39, 40, 41, 42, 43, 44, 45, 46, 47, 48, 49, 50, 51, 52, 53, 54, 55, 56, 57, 58, 59, 60, 61, 62, 63] (by decide +kernel) (by decide +kernel)
set_option maxRecDepth 20000 in
theorem gX5_nearest_X5_wrongBy : GoodIn wsX5_nearest (wsV RX5 144 RX5 yX5_wrongBy wsX5_wrongBy) := goodIn_app (goodIn_of _ (by decide +kernel)) ggX5_nearest_X5_wrongBy
theorem dX5_nearest_0 : decode cX5_nearest 0 = .ok (.iload_n 1, 1) := by decide +kernel
theorem dX5_nearest_1 : decode cX5_nearest 1 = .ok (.iconst 0, 1) := by decide +kernel
theorem dX5_nearest_2 : decode cX5_nearest 2 = .ok (.iconst 1, 1) := by decide +kernel
theorem dX5_nearest_3 : decode cX5_nearest 3 = .ok (.invokestatic 61, 3) := by decide +kernel
theorem dX5_nearest_6 : decode cX5_nearest 6 = .ok (.ifCond .ne 6, 3) := by decide +kernel
theorem dX5_nearest_9 : decode cX5_nearest 9 = .ok (.ldc 92, 2) := by decide +kernel
theorem dX5_nearest_11 : decode cX5_nearest 11 = .ok (.ireturn, 1) := by decide +kernel
theorem dX5_nearest_12 : decode cX5_nearest 12 = .ok (.iconst 0, 1) := by decide +kernel
theorem dX5_nearest_13 : decode cX5_nearest 13 = .ok (.istore_n 2, 1) := by decide +kernel
theorem dX5_nearest_14 : decode cX5_nearest 14 = .ok (.iload_n 2, 1) := by decide +kernel
theorem dX5_nearest_15 : decode cX5_nearest 15 = .ok (.aload_n 0, 1) := by decide +kernel
theorem dX5_nearest_16 : decode cX5_nearest 16 = .ok (.getfield 7, 3) := by decide +kernel
theorem dX5_nearest_19 : decode cX5_nearest 19 = .ok (.iconst 0, 1) := by decide +kernel
theorem dX5_nearest_20 : decode cX5_nearest 20 = .ok (.iaload, 1) := by decide +kernel
theorem dX5_nearest_21 : decode cX5_nearest 21 = .ok (.if_icmp .ge 104, 3) := by decide +kernel
theorem dX5_nearest_24 : decode cX5_nearest 24 = .ok (.aload_n 0, 1) := by decide +kernel
theorem dX5_nearest_25 : decode cX5_nearest 25 = .ok (.aload_n 0, 1) := by decide +kernel
theorem dX5_nearest_26 : decode cX5_nearest 26 = .ok (.getfield 7, 3) := by decide +kernel
theorem dX5_nearest_29 : decode cX5_nearest 29 = .ok (.iconst 1, 1) := by decide +kernel
theorem dX5_nearest_30 : decode cX5_nearest 30 = .ok (.iaload, 1) := by decide +kernel
theorem dX5_nearest_31 : decode cX5_nearest 31 = .ok (.iload_n 2, 1) := by decide +kernel
theorem dX5_nearest_32 : decode cX5_nearest 32 = .ok (.iadd, 1) := by decide +kernel
theorem dX5_nearest_33 : decode cX5_nearest 33 = .ok (.invokevirtual 105, 3) := by decide +kernel
theorem dX5_nearest_36 : decode cX5_nearest 36 = .ok (.ifCond .eq 22, 3) := by decide +kernel
theorem dX5_nearest_39 : decode cX5_nearest 39 = .ok (.aload_n 0, 1) := by decide +kernel
theorem dX5_nearest_40 : decode cX5_nearest 40 = .ok (.aload_n 0, 1) := by decide +kernel
theorem dX5_nearest_41 : decode cX5_nearest 41 = .ok (.getfield 7, 3) := by decide +kernel
theorem dX5_nearest_44 : decode cX5_nearest 44 = .ok (.iconst 1, 1) := by decide +kernel
theorem dX5_nearest_45 : decode cX5_nearest 45 = .ok (.iaload, 1) := by decide +kernel
theorem dX5_nearest_46 : decode cX5_nearest 46 = .ok (.iload_n 2, 1) := by decide +kernel
theorem dX5_nearest_47 : decode cX5_nearest 47 = .ok (.iadd, 1) := by decide +kernel
theorem dX5_nearest_48 : decode cX5_nearest 48 = .ok (.invokevirtual 144, 3) := by decide +kernel
theorem dX5_nearest_51 : decode cX5_nearest 51 = .ok (.ifCond .ne 7, 3) := by decide +kernel
theorem dX5_nearest_54 : decode cX5_nearest 54 = .ok (.iconst 1, 1) := by decide +kernel
theorem dX5_nearest_55 : decode cX5_nearest 55 = .ok (.goto 38, 3) := by decide +kernel
theorem dX5_nearest_58 : decode cX5_nearest 58 = .ok (.aload_n 0, 1) := by decide +kernel
theorem dX5_nearest_59 : decode cX5_nearest 59 = .ok (.aload_n 0, 1) := by decide +kernel
theorem dX5_nearest_60 : decode cX5_nearest 60 = .ok (.getfield 7, 3) := by decide +kernel
theorem dX5_nearest_63 : decode cX5_nearest 63 = .ok (.iconst 1, 1) := by decide +kernel
theorem dX5_nearest_64 : decode cX5_nearest 64 = .ok (.iaload, 1) := by decide +kernel
theorem dX5_nearest_65 : decode cX5_nearest 65 = .ok (.iload_n 2, 1) := by decide +kernel
theorem dX5_nearest_66 : decode cX5_nearest 66 = .ok (.isub, 1) := by decide +kernel
theorem dX5_nearest_67 : decode cX5_nearest 67 = .ok (.invokevirtual 105, 3) := by decide +kernel
theorem dX5_nearest_70 : decode cX5_nearest 70 = .ok (.ifCond .eq 22, 3) := by decide +kernel
theorem dX5_nearest_73 : decode cX5_nearest 73 = .ok (.aload_n 0, 1) := by decide +kernel
theorem dX5_nearest_74 : decode cX5_nearest 74 = .ok (.aload_n 0, 1) := by decide +kernel
theorem dX5_nearest_75 : decode cX5_nearest 75 = .ok (.getfield 7, 3) := by decide +kernel
theorem dX5_nearest_78 : decode cX5_nearest 78 = .ok (.iconst 1, 1) := by decide +kernel
theorem dX5_nearest_79 : decode cX5_nearest 79 = .ok (.iaload, 1) := by decide +kernel
theorem dX5_nearest_80 : decode cX5_nearest 80 = .ok (.iload_n 2, 1) := by decide +kernel
theorem dX5_nearest_81 : decode cX5_nearest 81 = .ok (.isub, 1) := by decide +kernel
theorem dX5_nearest_82 : decode cX5_nearest 82 = .ok (.invokevirtual 144, 3) := by decide +kernel
theorem dX5_nearest_85 : decode cX5_nearest 85 = .ok (.ifCond .ne 7, 3) := by decide +kernel
theorem dX5_nearest_88 : decode cX5_nearest 88 = .ok (.iconst (-1), 1) := by decide +kernel
theorem dX5_nearest_89 : decode cX5_nearest 89 = .ok (.goto 4, 3) := by decide +kernel
theorem dX5_nearest_92 : decode cX5_nearest 92 = .ok (.iconst 0, 1) := by decide +kernel
theorem dX5_nearest_93 : decode cX5_nearest 93 = .ok (.istore_n 3, 1) := by decide +kernel
theorem dX5_nearest_94 : decode cX5_nearest 94 = .ok (.iload_n 3, 1) := by decide +kernel
theorem dX5_nearest_95 : decode cX5_nearest 95 = .ok (.ifCond .eq 24, 3) := by decide +kernel
theorem dX5_nearest_98 : decode cX5_nearest 98 = .ok (.iload_n 1, 1) := by decide +kernel
theorem dX5_nearest_99 : decode cX5_nearest 99 = .ok (.ifCond .ne 16, 3) := by decide +kernel
theorem dX5_nearest_102 : decode cX5_nearest 102 = .ok (.aload_n 0, 1) := by decide +kernel
theorem dX5_nearest_103 : decode cX5_nearest 103 = .ok (.getfield 7, 3) := by decide +kernel
theorem dX5_nearest_106 : decode cX5_nearest 106 = .ok (.iconst 1, 1) := by decide +kernel
theorem dX5_nearest_107 : decode cX5_nearest 107 = .ok (.iaload, 1) := by decide +kernel
theorem dX5_nearest_108 : decode cX5_nearest 108 = .ok (.iload_n 3, 1) := by decide +kernel
theorem dX5_nearest_109 : decode cX5_nearest 109 = .ok (.iload_n 2, 1) := by decide +kernel
theorem dX5_nearest_110 : decode cX5_nearest 110 = .ok (.imul, 1) := by decide +kernel
theorem dX5_nearest_111 : decode cX5_nearest 111 = .ok (.iadd, 1) := by decide +kernel
theorem dX5_nearest_112 : decode cX5_nearest 112 = .ok (.goto 6, 3) := by decide +kernel
theorem dX5_nearest_115 : decode cX5_nearest 115 = .ok (.iload_n 3, 1) := by decide +kernel
theorem dX5_nearest_116 : decode cX5_nearest 116 = .ok (.iload_n 2, 1) := by decide +kernel
theorem dX5_nearest_117 : decode cX5_nearest 117 = .ok (.imul, 1) := by decide +kernel
theorem dX5_nearest_118 : decode cX5_nearest 118 = .ok (.ireturn, 1) := by decide +kernel
theorem dX5_nearest_119 : decode cX5_nearest 119 = .ok (.iinc 2 1, 3) := by decide +kernel
theorem dX5_nearest_122 : decode cX5_nearest 122 = .ok (.goto (-108), 3) := by decide +kernel
theorem dX5_nearest_125 : decode cX5_nearest 125 = .ok (.ldc 100, 2) := by decide +kernel
theorem dX5_nearest_127 : decode cX5_nearest 127 = .ok (.ireturn, 1) := by decide +kernel
set_option maxRecDepth 20000 in
theorem ggX5_alike_X5_isRow : GoodIn wsX5_alike wsX5_isRow := goodIn_r _ [6, 7, 12, 13, 14, 15, 16, 17, 18, 19, 20, 21, 22, 23, 24] (by decide +kernel) (by decide +kernel)
set_option maxRecDepth 20000 in
theorem gX5_alike_X5_isRow : GoodIn wsX5_alike (wsV RX5 105 RX5 yX5_isRow wsX5_isRow) := goodIn_app (goodIn_of _ (by decide +kernel)) ggX5_alike_X5_isRow
set_option maxRecDepth 20000 in
theorem ggX5_alike_X5_of : GoodIn wsX5_alike wsX5_of := goodIn_r _ [11, 7, 12, 13, 14, 15, 16, 17, 18, 19, 20, 21, 22, 23, 24] (by decide +kernel) (by decide +kernel)
set_option maxRecDepth 20000 in
theorem gX5_alike_X5_of : GoodIn wsX5_alike (wsV RX5 26 RX5 yX5_of wsX5_of) := goodIn_app (goodIn_of _ (by decide +kernel)) ggX5_alike_X5_of
theorem dX5_alike_0 : decode cX5_alike 0 = .ok (.aload_n 0, 1) := by decide +kernel
theorem dX5_alike_1 : decode cX5_alike 1 = .ok (.iload_n 1, 1) := by decide +kernel
theorem dX5_alike_2 : decode cX5_alike 2 = .ok (.invokevirtual 105, 3) := by decide +kernel
theorem dX5_alike_5 : decode cX5_alike 5 = .ok (.ifCond .eq 11, 3) := by decide +kernel
theorem dX5_alike_8 : decode cX5_alike 8 = .ok (.aload_n 0, 1) := by decide +kernel
theorem dX5_alike_9 : decode cX5_alike 9 = .ok (.iload_n 2, 1) := by decide +kernel
theorem dX5_alike_10 : decode cX5_alike 10 = .ok (.invokevirtual 105, 3) := by decide +kernel
theorem dX5_alike_13 : decode cX5_alike 13 = .ok (.ifCond .ne 6, 3) := by decide +kernel
theorem dX5_alike_16 : decode cX5_alike 16 = .ok (.ldc 92, 2) := by decide +kernel
theorem dX5_alike_18 : decode cX5_alike 18 = .ok (.ireturn, 1) := by decide +kernel
theorem dX5_alike_19 : decode cX5_alike 19 = .ok (.iconst 0, 1) := by decide +kernel
theorem dX5_alike_20 : decode cX5_alike 20 = .ok (.istore_n 3, 1) := by decide +kernel
theorem dX5_alike_21 : decode cX5_alike 21 = .ok (.iload_n 3, 1) := by decide +kernel
theorem dX5_alike_22 : decode cX5_alike 22 = .ok (.aload_n 0, 1) := by decide +kernel
theorem dX5_alike_23 : decode cX5_alike 23 = .ok (.iload_n 1, 1) := by decide +kernel
theorem dX5_alike_24 : decode cX5_alike 24 = .ok (.iconst 0, 1) := by decide +kernel
theorem dX5_alike_25 : decode cX5_alike 25 = .ok (.invokevirtual 26, 3) := by decide +kernel
theorem dX5_alike_28 : decode cX5_alike 28 = .ok (.if_icmp .ge 38, 3) := by decide +kernel
theorem dX5_alike_31 : decode cX5_alike 31 = .ok (.iload_n 3, 1) := by decide +kernel
theorem dX5_alike_32 : decode cX5_alike 32 = .ok (.aload_n 0, 1) := by decide +kernel
theorem dX5_alike_33 : decode cX5_alike 33 = .ok (.iload_n 2, 1) := by decide +kernel
theorem dX5_alike_34 : decode cX5_alike 34 = .ok (.iconst 0, 1) := by decide +kernel
theorem dX5_alike_35 : decode cX5_alike 35 = .ok (.invokevirtual 26, 3) := by decide +kernel
theorem dX5_alike_38 : decode cX5_alike 38 = .ok (.if_icmp .ge 28, 3) := by decide +kernel
theorem dX5_alike_41 : decode cX5_alike 41 = .ok (.aload_n 0, 1) := by decide +kernel
theorem dX5_alike_42 : decode cX5_alike 42 = .ok (.iload_n 1, 1) := by decide +kernel
theorem dX5_alike_43 : decode cX5_alike 43 = .ok (.iconst 3, 1) := by decide +kernel
theorem dX5_alike_44 : decode cX5_alike 44 = .ok (.iload_n 3, 1) := by decide +kernel
theorem dX5_alike_45 : decode cX5_alike 45 = .ok (.iadd, 1) := by decide +kernel
theorem dX5_alike_46 : decode cX5_alike 46 = .ok (.invokevirtual 26, 3) := by decide +kernel
theorem dX5_alike_49 : decode cX5_alike 49 = .ok (.aload_n 0, 1) := by decide +kernel
theorem dX5_alike_50 : decode cX5_alike 50 = .ok (.iload_n 2, 1) := by decide +kernel
theorem dX5_alike_51 : decode cX5_alike 51 = .ok (.iconst 3, 1) := by decide +kernel
theorem dX5_alike_52 : decode cX5_alike 52 = .ok (.iload_n 3, 1) := by decide +kernel
theorem dX5_alike_53 : decode cX5_alike 53 = .ok (.iadd, 1) := by decide +kernel
theorem dX5_alike_54 : decode cX5_alike 54 = .ok (.invokevirtual 26, 3) := by decide +kernel
theorem dX5_alike_57 : decode cX5_alike 57 = .ok (.if_icmp .ne 9, 3) := by decide +kernel
theorem dX5_alike_60 : decode cX5_alike 60 = .ok (.iinc 3 1, 3) := by decide +kernel
theorem dX5_alike_63 : decode cX5_alike 63 = .ok (.goto (-42), 3) := by decide +kernel
theorem dX5_alike_66 : decode cX5_alike 66 = .ok (.iload_n 3, 1) := by decide +kernel
theorem dX5_alike_67 : decode cX5_alike 67 = .ok (.ireturn, 1) := by decide +kernel
set_option maxRecDepth 20000 in
theorem ggX5_read_X5_in : GoodIn wsX5_read wsX5_in := goodIn_r _ [7] (by decide +kernel) (by decide +kernel)
set_option maxRecDepth 20000 in
theorem gX5_read_X5_in : GoodIn wsX5_read (va_wsS RX5 61 yX5_in wsX5_in) := goodIn_app (goodIn_of _ (by decide +kernel)) ggX5_read_X5_in
set_option maxRecDepth 20000 in
theorem ggX5_read_X5_of : GoodIn wsX5_read wsX5_of := goodIn_r _ [11, 2, 27, 28, 29, 30, 31, 32, 33, 34, 35, 36, 37, 38, 39] (by decide +kernel) (by decide +kernel)
set_option maxRecDepth 20000 in
theorem gX5_read_X5_of : GoodIn wsX5_read (wsV RX5 26 RX5 yX5_of wsX5_of) := goodIn_app (goodIn_of _ (by decide +kernel)) ggX5_read_X5_of
set_option maxRecDepth 20000 in
theorem ggX5_read_X5_isTorn : GoodIn wsX5_read wsX5_isTorn := goodIn_r _ [15, 8, 9, 10, 6, 11, 2, 27, 28, 29, 30, 31, 32, 33, 34, 35, 36, 37, 38, 39] (by decide +kernel) (by decide +kernel)
set_option maxRecDepth 20000 in
theorem gX5_read_X5_isTorn : GoodIn wsX5_read (wsV RX5 115 RX5 yX5_isTorn wsX5_isTorn) := goodIn_app (goodIn_of _ (by decide +kernel)) ggX5_read_X5_isTorn
set_option maxRecDepth 20000 in
theorem ggX5_read_X5_wide : GoodIn wsX5_read wsX5_wide := goodIn_r _ [18] (by decide +kernel) (by decide +kernel)
set_option maxRecDepth 20000 in
theorem gX5_read_X5_wide : GoodIn wsX5_read (va_wsS RX5 30 yX5_wide wsX5_wide) := goodIn_app (goodIn_of _ (by decide +kernel)) ggX5_read_X5_wide
set_option maxRecDepth 20000 in
theorem ggX5_read_X5_width : GoodIn wsX5_read wsX5_width := goodIn_r _ [22, 8, 9, 10, 6, 11, 2, 16, 17, 18, 27, 28, 29, 30, 31, 32, 33, 34, 35, 36, 37, 38, 39] (by decide +kernel) (by decide +kernel)
set_option maxRecDepth 20000 in
theorem gX5_read_X5_width : GoodIn wsX5_read (wsV RX5 141 RX5 yX5_width wsX5_width) := goodIn_app (goodIn_of _ (by decide +kernel)) ggX5_read_X5_width
set_option maxRecDepth 20000 in
theorem ggX5_read_X5_squeezed : GoodIn wsX5_read wsX5_squeezed := goodIn_r _ [26, 2, 27, 28, 29, 30, 31, 32, 33, 34, 35, 36, 37, 38, 39] (by decide +kernel) (by decide +kernel)
set_option maxRecDepth 20000 in
theorem gX5_read_X5_squeezed : GoodIn wsX5_read (wsV RX5 79 RX5 yX5_squeezed wsX5_squeezed) := goodIn_app (goodIn_of _ (by decide +kernel)) ggX5_read_X5_squeezed
theorem dX5_read_0 : decode cX5_read 0 = .ok (.iload_n 1, 1) := by decide +kernel
theorem dX5_read_1 : decode cX5_read 1 = .ok (.iconst 1, 1) := by decide +kernel
theorem dX5_read_2 : decode cX5_read 2 = .ok (.sipush 999, 3) := by decide +kernel
theorem dX5_read_5 : decode cX5_read 5 = .ok (.invokestatic 61, 3) := by decide +kernel
theorem dX5_read_8 : decode cX5_read 8 = .ok (.ifCond .ne 6, 3) := by decide +kernel
theorem dX5_read_11 : decode cX5_read 11 = .ok (.ldc 92, 2) := by decide +kernel
theorem dX5_read_13 : decode cX5_read 13 = .ok (.ireturn, 1) := by decide +kernel
theorem dX5_read_14 : decode cX5_read 14 = .ok (.aload_n 0, 1) := by decide +kernel
theorem dX5_read_15 : decode cX5_read 15 = .ok (.getfield 7, 3) := by decide +kernel
theorem dX5_read_18 : decode cX5_read 18 = .ok (.iconst 0, 1) := by decide +kernel
theorem dX5_read_19 : decode cX5_read 19 = .ok (.iaload, 1) := by decide +kernel
theorem dX5_read_20 : decode cX5_read 20 = .ok (.ifCond .ne 6, 3) := by decide +kernel
theorem dX5_read_23 : decode cX5_read 23 = .ok (.ldc 100, 2) := by decide +kernel
theorem dX5_read_25 : decode cX5_read 25 = .ok (.ireturn, 1) := by decide +kernel
theorem dX5_read_26 : decode cX5_read 26 = .ok (.aload_n 0, 1) := by decide +kernel
theorem dX5_read_27 : decode cX5_read 27 = .ok (.getfield 7, 3) := by decide +kernel
theorem dX5_read_30 : decode cX5_read 30 = .ok (.iconst 1, 1) := by decide +kernel
theorem dX5_read_31 : decode cX5_read 31 = .ok (.iaload, 1) := by decide +kernel
theorem dX5_read_32 : decode cX5_read 32 = .ok (.istore_n 2, 1) := by decide +kernel
theorem dX5_read_33 : decode cX5_read 33 = .ok (.iconst 0, 1) := by decide +kernel
theorem dX5_read_34 : decode cX5_read 34 = .ok (.istore_n 3, 1) := by decide +kernel
theorem dX5_read_35 : decode cX5_read 35 = .ok (.iconst 0, 1) := by decide +kernel
theorem dX5_read_36 : decode cX5_read 36 = .ok (.istore 4, 2) := by decide +kernel
theorem dX5_read_38 : decode cX5_read 38 = .ok (.iload 4, 2) := by decide +kernel
theorem dX5_read_40 : decode cX5_read 40 = .ok (.aload_n 0, 1) := by decide +kernel
theorem dX5_read_41 : decode cX5_read 41 = .ok (.iload_n 2, 1) := by decide +kernel
theorem dX5_read_42 : decode cX5_read 42 = .ok (.iconst 0, 1) := by decide +kernel
theorem dX5_read_43 : decode cX5_read 43 = .ok (.invokevirtual 26, 3) := by decide +kernel
theorem dX5_read_46 : decode cX5_read 46 = .ok (.if_icmp .ge 85, 3) := by decide +kernel
theorem dX5_read_49 : decode cX5_read 49 = .ok (.aload_n 0, 1) := by decide +kernel
theorem dX5_read_50 : decode cX5_read 50 = .ok (.iload_n 2, 1) := by decide +kernel
theorem dX5_read_51 : decode cX5_read 51 = .ok (.invokevirtual 115, 3) := by decide +kernel
theorem dX5_read_54 : decode cX5_read 54 = .ok (.ifCond .ne 77, 3) := by decide +kernel
theorem dX5_read_57 : decode cX5_read 57 = .ok (.aload_n 0, 1) := by decide +kernel
theorem dX5_read_58 : decode cX5_read 58 = .ok (.iload_n 2, 1) := by decide +kernel
theorem dX5_read_59 : decode cX5_read 59 = .ok (.iconst 3, 1) := by decide +kernel
theorem dX5_read_60 : decode cX5_read 60 = .ok (.iload 4, 2) := by decide +kernel
theorem dX5_read_62 : decode cX5_read 62 = .ok (.iadd, 1) := by decide +kernel
theorem dX5_read_63 : decode cX5_read 63 = .ok (.invokevirtual 26, 3) := by decide +kernel
theorem dX5_read_66 : decode cX5_read 66 = .ok (.istore 5, 2) := by decide +kernel
theorem dX5_read_68 : decode cX5_read 68 = .ok (.iload 5, 2) := by decide +kernel
theorem dX5_read_70 : decode cX5_read 70 = .ok (.bipush 32, 2) := by decide +kernel
theorem dX5_read_72 : decode cX5_read 72 = .ok (.if_icmp .eq 33, 3) := by decide +kernel
theorem dX5_read_75 : decode cX5_read 75 = .ok (.iload 5, 2) := by decide +kernel
theorem dX5_read_77 : decode cX5_read 77 = .ok (.invokestatic 30, 3) := by decide +kernel
theorem dX5_read_80 : decode cX5_read 80 = .ok (.aload_n 0, 1) := by decide +kernel
theorem dX5_read_81 : decode cX5_read 81 = .ok (.getfield 7, 3) := by decide +kernel
theorem dX5_read_84 : decode cX5_read 84 = .ok (.bipush 10, 2) := by decide +kernel
theorem dX5_read_86 : decode cX5_read 86 = .ok (.iaload, 1) := by decide +kernel
theorem dX5_read_87 : decode cX5_read 87 = .ok (.imul, 1) := by decide +kernel
theorem dX5_read_88 : decode cX5_read 88 = .ok (.bipush 100, 2) := by decide +kernel
theorem dX5_read_90 : decode cX5_read 90 = .ok (.imul, 1) := by decide +kernel
theorem dX5_read_91 : decode cX5_read 91 = .ok (.aload_n 0, 1) := by decide +kernel
theorem dX5_read_92 : decode cX5_read 92 = .ok (.aload_n 0, 1) := by decide +kernel
theorem dX5_read_93 : decode cX5_read 93 = .ok (.iload_n 2, 1) := by decide +kernel
theorem dX5_read_94 : decode cX5_read 94 = .ok (.invokevirtual 141, 3) := by decide +kernel
theorem dX5_read_97 : decode cX5_read 97 = .ok (.invokevirtual 79, 3) := by decide +kernel
theorem dX5_read_100 : decode cX5_read 100 = .ok (.idiv, 1) := by decide +kernel
theorem dX5_read_101 : decode cX5_read 101 = .ok (.iload_n 1, 1) := by decide +kernel
theorem dX5_read_102 : decode cX5_read 102 = .ok (.if_icmp .lt 7, 3) := by decide +kernel
theorem dX5_read_105 : decode cX5_read 105 = .ok (.iconst 1, 1) := by decide +kernel
theorem dX5_read_106 : decode cX5_read 106 = .ok (.goto 4, 3) := by decide +kernel
theorem dX5_read_109 : decode cX5_read 109 = .ok (.iconst 0, 1) := by decide +kernel
theorem dX5_read_110 : decode cX5_read 110 = .ok (.istore 6, 2) := by decide +kernel
theorem dX5_read_112 : decode cX5_read 112 = .ok (.iload_n 3, 1) := by decide +kernel
theorem dX5_read_113 : decode cX5_read 113 = .ok (.iload 6, 2) := by decide +kernel
theorem dX5_read_115 : decode cX5_read 115 = .ok (.ifCond .eq 7, 3) := by decide +kernel
theorem dX5_read_118 : decode cX5_read 118 = .ok (.iconst 1, 1) := by decide +kernel
theorem dX5_read_119 : decode cX5_read 119 = .ok (.goto 4, 3) := by decide +kernel
theorem dX5_read_122 : decode cX5_read 122 = .ok (.iconst 0, 1) := by decide +kernel
theorem dX5_read_123 : decode cX5_read 123 = .ok (.iadd, 1) := by decide +kernel
theorem dX5_read_124 : decode cX5_read 124 = .ok (.istore_n 3, 1) := by decide +kernel
theorem dX5_read_125 : decode cX5_read 125 = .ok (.iinc 4 1, 3) := by decide +kernel
theorem dX5_read_128 : decode cX5_read 128 = .ok (.goto (-90), 3) := by decide +kernel
theorem dX5_read_131 : decode cX5_read 131 = .ok (.iload_n 3, 1) := by decide +kernel
theorem dX5_read_132 : decode cX5_read 132 = .ok (.ireturn, 1) := by decide +kernel
set_option maxRecDepth 20000 in
theorem ggX5_find_X5_of : GoodIn wsX5_find wsX5_of := goodIn_r _ [9, 1, 10, 11, 12, 13, 14, 15, 16, 17, 18, 19, 20, 21, 22] (by decide +kernel) (by decide +kernel)
set_option maxRecDepth 20000 in
theorem gX5_find_X5_of : GoodIn wsX5_find (wsV RX5 26 RX5 yX5_of wsX5_of) := goodIn_app (goodIn_of _ (by decide +kernel)) ggX5_find_X5_of
theorem dX5_find_0 : decode cX5_find 0 = .ok (.iconst 0, 1) := by decide +kernel
theorem dX5_find_1 : decode cX5_find 1 = .ok (.istore_n 1, 1) := by decide +kernel
theorem dX5_find_2 : decode cX5_find 2 = .ok (.iload_n 1, 1) := by decide +kernel
theorem dX5_find_3 : decode cX5_find 3 = .ok (.aload_n 0, 1) := by decide +kernel
theorem dX5_find_4 : decode cX5_find 4 = .ok (.getfield 7, 3) := by decide +kernel
theorem dX5_find_7 : decode cX5_find 7 = .ok (.iconst 0, 1) := by decide +kernel
theorem dX5_find_8 : decode cX5_find 8 = .ok (.iaload, 1) := by decide +kernel
theorem dX5_find_9 : decode cX5_find 9 = .ok (.if_icmp .ge 77, 3) := by decide +kernel
theorem dX5_find_12 : decode cX5_find 12 = .ok (.aload_n 0, 1) := by decide +kernel
theorem dX5_find_13 : decode cX5_find 13 = .ok (.iload_n 1, 1) := by decide +kernel
theorem dX5_find_14 : decode cX5_find 14 = .ok (.iconst 0, 1) := by decide +kernel
theorem dX5_find_15 : decode cX5_find 15 = .ok (.invokevirtual 26, 3) := by decide +kernel
theorem dX5_find_18 : decode cX5_find 18 = .ok (.aload_n 0, 1) := by decide +kernel
theorem dX5_find_19 : decode cX5_find 19 = .ok (.getfield 55, 3) := by decide +kernel
theorem dX5_find_22 : decode cX5_find 22 = .ok (.if_icmp .ne 7, 3) := by decide +kernel
theorem dX5_find_25 : decode cX5_find 25 = .ok (.iconst 1, 1) := by decide +kernel
theorem dX5_find_26 : decode cX5_find 26 = .ok (.goto 4, 3) := by decide +kernel
theorem dX5_find_29 : decode cX5_find 29 = .ok (.iconst 0, 1) := by decide +kernel
theorem dX5_find_30 : decode cX5_find 30 = .ok (.istore_n 2, 1) := by decide +kernel
theorem dX5_find_31 : decode cX5_find 31 = .ok (.iconst 0, 1) := by decide +kernel
theorem dX5_find_32 : decode cX5_find 32 = .ok (.istore_n 3, 1) := by decide +kernel
theorem dX5_find_33 : decode cX5_find 33 = .ok (.iload_n 3, 1) := by decide +kernel
theorem dX5_find_34 : decode cX5_find 34 = .ok (.aload_n 0, 1) := by decide +kernel
theorem dX5_find_35 : decode cX5_find 35 = .ok (.getfield 55, 3) := by decide +kernel
theorem dX5_find_38 : decode cX5_find 38 = .ok (.if_icmp .ge 36, 3) := by decide +kernel
theorem dX5_find_41 : decode cX5_find 41 = .ok (.iload_n 2, 1) := by decide +kernel
theorem dX5_find_42 : decode cX5_find 42 = .ok (.ifCond .eq 32, 3) := by decide +kernel
theorem dX5_find_45 : decode cX5_find 45 = .ok (.aload_n 0, 1) := by decide +kernel
theorem dX5_find_46 : decode cX5_find 46 = .ok (.iload_n 1, 1) := by decide +kernel
theorem dX5_find_47 : decode cX5_find 47 = .ok (.iconst 3, 1) := by decide +kernel
theorem dX5_find_48 : decode cX5_find 48 = .ok (.iload_n 3, 1) := by decide +kernel
theorem dX5_find_49 : decode cX5_find 49 = .ok (.iadd, 1) := by decide +kernel
theorem dX5_find_50 : decode cX5_find 50 = .ok (.invokevirtual 26, 3) := by decide +kernel
theorem dX5_find_53 : decode cX5_find 53 = .ok (.aload_n 0, 1) := by decide +kernel
theorem dX5_find_54 : decode cX5_find 54 = .ok (.getfield 19, 3) := by decide +kernel
theorem dX5_find_57 : decode cX5_find 57 = .ok (.iload_n 3, 1) := by decide +kernel
theorem dX5_find_58 : decode cX5_find 58 = .ok (.iaload, 1) := by decide +kernel
theorem dX5_find_59 : decode cX5_find 59 = .ok (.if_icmp .ne 7, 3) := by decide +kernel
theorem dX5_find_62 : decode cX5_find 62 = .ok (.iconst 1, 1) := by decide +kernel
theorem dX5_find_63 : decode cX5_find 63 = .ok (.goto 4, 3) := by decide +kernel
theorem dX5_find_66 : decode cX5_find 66 = .ok (.iconst 0, 1) := by decide +kernel
theorem dX5_find_67 : decode cX5_find 67 = .ok (.istore_n 2, 1) := by decide +kernel
theorem dX5_find_68 : decode cX5_find 68 = .ok (.iinc 3 1, 3) := by decide +kernel
theorem dX5_find_71 : decode cX5_find 71 = .ok (.goto (-38), 3) := by decide +kernel
theorem dX5_find_74 : decode cX5_find 74 = .ok (.iload_n 2, 1) := by decide +kernel
theorem dX5_find_75 : decode cX5_find 75 = .ok (.ifCond .eq 5, 3) := by decide +kernel
theorem dX5_find_78 : decode cX5_find 78 = .ok (.iload_n 1, 1) := by decide +kernel
theorem dX5_find_79 : decode cX5_find 79 = .ok (.ireturn, 1) := by decide +kernel
theorem dX5_find_80 : decode cX5_find 80 = .ok (.iinc 1 1, 3) := by decide +kernel
theorem dX5_find_83 : decode cX5_find 83 = .ok (.goto (-81), 3) := by decide +kernel
theorem dX5_find_86 : decode cX5_find 86 = .ok (.ldc 100, 2) := by decide +kernel
theorem dX5_find_88 : decode cX5_find 88 = .ok (.ireturn, 1) := by decide +kernel
set_option maxRecDepth 20000 in
theorem ggX5_mean_X5_width : GoodIn wsX5_mean wsX5_width := goodIn_r _ [7, 8, 9, 10, 6, 11, 1, 12, 13, 14, 27, 28, 29, 30, 31, 32, 33, 34, 35, 36, 37, 38, 39] (by decide +kernel) (by decide +kernel)
set_option maxRecDepth 20000 in
theorem gX5_mean_X5_width : GoodIn wsX5_mean (wsV RX5 141 RX5 yX5_width wsX5_width) := goodIn_app (goodIn_of _ (by decide +kernel)) ggX5_mean_X5_width
set_option maxRecDepth 20000 in
theorem ggX5_mean_Jxf58ca_floatToIntBits_5c35a : GoodIn wsX5_mean wsJxf58ca_floatToIntBits_5c35a := goodIn_r _ [18, 19, 20, 21, 22, 23, 24, 25, 17, 26] (by decide +kernel) (by decide +kernel)
set_option maxRecDepth 20000 in
theorem gX5_mean_Jxf58ca_floatToIntBits_5c35a : GoodIn wsX5_mean (va_wsS RX5 160 yJxf58ca_floatToIntBits_5c35a wsJxf58ca_floatToIntBits_5c35a) := goodIn_app (goodIn_of _ (by decide +kernel)) ggX5_mean_Jxf58ca_floatToIntBits_5c35a
theorem dX5_mean_0 : decode cX5_mean 0 = .ok (.iconst 0, 1) := by decide +kernel
theorem dX5_mean_1 : decode cX5_mean 1 = .ok (.istore_n 1, 1) := by decide +kernel
theorem dX5_mean_2 : decode cX5_mean 2 = .ok (.iconst 0, 1) := by decide +kernel
theorem dX5_mean_3 : decode cX5_mean 3 = .ok (.istore_n 2, 1) := by decide +kernel
theorem dX5_mean_4 : decode cX5_mean 4 = .ok (.iload_n 2, 1) := by decide +kernel
theorem dX5_mean_5 : decode cX5_mean 5 = .ok (.aload_n 0, 1) := by decide +kernel
theorem dX5_mean_6 : decode cX5_mean 6 = .ok (.getfield 7, 3) := by decide +kernel
theorem dX5_mean_9 : decode cX5_mean 9 = .ok (.iconst 0, 1) := by decide +kernel
theorem dX5_mean_10 : decode cX5_mean 10 = .ok (.iaload, 1) := by decide +kernel
theorem dX5_mean_11 : decode cX5_mean 11 = .ok (.if_icmp .ge 17, 3) := by decide +kernel
theorem dX5_mean_14 : decode cX5_mean 14 = .ok (.iload_n 1, 1) := by decide +kernel
theorem dX5_mean_15 : decode cX5_mean 15 = .ok (.aload_n 0, 1) := by decide +kernel
theorem dX5_mean_16 : decode cX5_mean 16 = .ok (.iload_n 2, 1) := by decide +kernel
theorem dX5_mean_17 : decode cX5_mean 17 = .ok (.invokevirtual 141, 3) := by decide +kernel
theorem dX5_mean_20 : decode cX5_mean 20 = .ok (.iadd, 1) := by decide +kernel
theorem dX5_mean_21 : decode cX5_mean 21 = .ok (.istore_n 1, 1) := by decide +kernel
theorem dX5_mean_22 : decode cX5_mean 22 = .ok (.iinc 2 1, 3) := by decide +kernel
theorem dX5_mean_25 : decode cX5_mean 25 = .ok (.goto (-21), 3) := by decide +kernel
theorem dX5_mean_28 : decode cX5_mean 28 = .ok (.iload_n 1, 1) := by decide +kernel
theorem dX5_mean_29 : decode cX5_mean 29 = .ok (.i2f, 1) := by decide +kernel
theorem dX5_mean_30 : decode cX5_mean 30 = .ok (.aload_n 0, 1) := by decide +kernel
theorem dX5_mean_31 : decode cX5_mean 31 = .ok (.getfield 7, 3) := by decide +kernel
theorem dX5_mean_34 : decode cX5_mean 34 = .ok (.iconst 0, 1) := by decide +kernel
theorem dX5_mean_35 : decode cX5_mean 35 = .ok (.iaload, 1) := by decide +kernel
theorem dX5_mean_36 : decode cX5_mean 36 = .ok (.ifCond .ne 7, 3) := by decide +kernel
theorem dX5_mean_39 : decode cX5_mean 39 = .ok (.iconst 1, 1) := by decide +kernel
theorem dX5_mean_40 : decode cX5_mean 40 = .ok (.goto 9, 3) := by decide +kernel
theorem dX5_mean_43 : decode cX5_mean 43 = .ok (.aload_n 0, 1) := by decide +kernel
theorem dX5_mean_44 : decode cX5_mean 44 = .ok (.getfield 7, 3) := by decide +kernel
theorem dX5_mean_47 : decode cX5_mean 47 = .ok (.iconst 0, 1) := by decide +kernel
theorem dX5_mean_48 : decode cX5_mean 48 = .ok (.iaload, 1) := by decide +kernel
theorem dX5_mean_49 : decode cX5_mean 49 = .ok (.i2f, 1) := by decide +kernel
theorem dX5_mean_50 : decode cX5_mean 50 = .ok (.fdiv, 1) := by decide +kernel
theorem dX5_mean_51 : decode cX5_mean 51 = .ok (.fstore_n 2, 1) := by decide +kernel
theorem dX5_mean_52 : decode cX5_mean 52 = .ok (.aload_n 0, 1) := by decide +kernel
theorem dX5_mean_53 : decode cX5_mean 53 = .ok (.getfield 7, 3) := by decide +kernel
theorem dX5_mean_56 : decode cX5_mean 56 = .ok (.iconst 0, 1) := by decide +kernel
theorem dX5_mean_57 : decode cX5_mean 57 = .ok (.iaload, 1) := by decide +kernel
theorem dX5_mean_58 : decode cX5_mean 58 = .ok (.ifCond .ne 8, 3) := by decide +kernel
theorem dX5_mean_61 : decode cX5_mean 61 = .ok (.ldc 100, 2) := by decide +kernel
theorem dX5_mean_63 : decode cX5_mean 63 = .ok (.goto 7, 3) := by decide +kernel
theorem dX5_mean_66 : decode cX5_mean 66 = .ok (.fload_n 2, 1) := by decide +kernel
theorem dX5_mean_67 : decode cX5_mean 67 = .ok (.invokestatic 160, 3) := by decide +kernel
theorem dX5_mean_70 : decode cX5_mean 70 = .ok (.ireturn, 1) := by decide +kernel
set_option maxRecDepth 20000 in
theorem ggX5_widest_X5_width : GoodIn wsX5_widest wsX5_width := goodIn_r _ [7, 8, 9, 10, 6, 11, 2, 12, 13, 14, 15, 16, 17, 18, 19, 20, 21, 22, 23, 24, 25, 26, 27] (by decide +kernel) (by decide +kernel)
set_option maxRecDepth 20000 in
theorem gX5_widest_X5_width : GoodIn wsX5_widest (wsV RX5 141 RX5 yX5_width wsX5_width) := goodIn_app (goodIn_of _ (by decide +kernel)) ggX5_widest_X5_width
theorem dX5_widest_0 : decode cX5_widest 0 = .ok (.ldc 100, 2) := by decide +kernel
theorem dX5_widest_2 : decode cX5_widest 2 = .ok (.istore_n 1, 1) := by decide +kernel
theorem dX5_widest_3 : decode cX5_widest 3 = .ok (.iconst 0, 1) := by decide +kernel
theorem dX5_widest_4 : decode cX5_widest 4 = .ok (.istore_n 2, 1) := by decide +kernel
theorem dX5_widest_5 : decode cX5_widest 5 = .ok (.iconst 0, 1) := by decide +kernel
theorem dX5_widest_6 : decode cX5_widest 6 = .ok (.istore_n 3, 1) := by decide +kernel
theorem dX5_widest_7 : decode cX5_widest 7 = .ok (.iload_n 3, 1) := by decide +kernel
theorem dX5_widest_8 : decode cX5_widest 8 = .ok (.aload_n 0, 1) := by decide +kernel
theorem dX5_widest_9 : decode cX5_widest 9 = .ok (.getfield 7, 3) := by decide +kernel
theorem dX5_widest_12 : decode cX5_widest 12 = .ok (.iconst 0, 1) := by decide +kernel
theorem dX5_widest_13 : decode cX5_widest 13 = .ok (.iaload, 1) := by decide +kernel
theorem dX5_widest_14 : decode cX5_widest 14 = .ok (.if_icmp .ge 43, 3) := by decide +kernel
theorem dX5_widest_17 : decode cX5_widest 17 = .ok (.aload_n 0, 1) := by decide +kernel
theorem dX5_widest_18 : decode cX5_widest 18 = .ok (.iload_n 3, 1) := by decide +kernel
theorem dX5_widest_19 : decode cX5_widest 19 = .ok (.invokevirtual 141, 3) := by decide +kernel
theorem dX5_widest_22 : decode cX5_widest 22 = .ok (.iload_n 2, 1) := by decide +kernel
theorem dX5_widest_23 : decode cX5_widest 23 = .ok (.if_icmp .le 7, 3) := by decide +kernel
theorem dX5_widest_26 : decode cX5_widest 26 = .ok (.iload_n 3, 1) := by decide +kernel
theorem dX5_widest_27 : decode cX5_widest 27 = .ok (.goto 4, 3) := by decide +kernel
theorem dX5_widest_30 : decode cX5_widest 30 = .ok (.iload_n 1, 1) := by decide +kernel
theorem dX5_widest_31 : decode cX5_widest 31 = .ok (.istore_n 1, 1) := by decide +kernel
theorem dX5_widest_32 : decode cX5_widest 32 = .ok (.aload_n 0, 1) := by decide +kernel
theorem dX5_widest_33 : decode cX5_widest 33 = .ok (.iload_n 3, 1) := by decide +kernel
theorem dX5_widest_34 : decode cX5_widest 34 = .ok (.invokevirtual 141, 3) := by decide +kernel
theorem dX5_widest_37 : decode cX5_widest 37 = .ok (.iload_n 2, 1) := by decide +kernel
theorem dX5_widest_38 : decode cX5_widest 38 = .ok (.if_icmp .le 11, 3) := by decide +kernel
theorem dX5_widest_41 : decode cX5_widest 41 = .ok (.aload_n 0, 1) := by decide +kernel
theorem dX5_widest_42 : decode cX5_widest 42 = .ok (.iload_n 3, 1) := by decide +kernel
theorem dX5_widest_43 : decode cX5_widest 43 = .ok (.invokevirtual 141, 3) := by decide +kernel
theorem dX5_widest_46 : decode cX5_widest 46 = .ok (.goto 4, 3) := by decide +kernel
theorem dX5_widest_49 : decode cX5_widest 49 = .ok (.iload_n 2, 1) := by decide +kernel
theorem dX5_widest_50 : decode cX5_widest 50 = .ok (.istore_n 2, 1) := by decide +kernel
theorem dX5_widest_51 : decode cX5_widest 51 = .ok (.iinc 3 1, 3) := by decide +kernel
theorem dX5_widest_54 : decode cX5_widest 54 = .ok (.goto (-47), 3) := by decide +kernel
theorem dX5_widest_57 : decode cX5_widest 57 = .ok (.iload_n 1, 1) := by decide +kernel
theorem dX5_widest_58 : decode cX5_widest 58 = .ok (.ireturn, 1) := by decide +kernel
theorem dX5_told_0 : decode cX5_told 0 = .ok (.iload_n 0, 1) := by decide +kernel
theorem dX5_told_1 : decode cX5_told 1 = .ok (.ifCond .ge 8, 3) := by decide +kernel
theorem dX5_told_4 : decode cX5_told 4 = .ok (.ldc 100, 2) := by decide +kernel
theorem dX5_told_6 : decode cX5_told 6 = .ok (.goto 4, 3) := by decide +kernel
theorem dX5_told_9 : decode cX5_told 9 = .ok (.iload_n 0, 1) := by decide +kernel
theorem dX5_told_10 : decode cX5_told 10 = .ok (.ireturn, 1) := by decide +kernel
set_option maxRecDepth 20000 in
theorem ggX5_count_X5_told : GoodIn wsX5_count wsX5_told := goodIn_r _ [8, 9] (by decide +kernel) (by decide +kernel)
set_option maxRecDepth 20000 in
theorem gX5_count_X5_told : GoodIn wsX5_count (va_wsS RX5 166 yX5_told wsX5_told) := goodIn_app (goodIn_of _ (by decide +kernel)) ggX5_count_X5_told
set_option maxRecDepth 20000 in
theorem ggX5_count_X5_tornOnes : GoodIn wsX5_count wsX5_tornOnes := goodIn_r _ [13, 1, 14, 15, 16, 7, 17, 60, 61, 62, 63, 64, 65, 66, 67, 68, 69, 70, 71, 72] (by decide +kernel) (by decide +kernel)
set_option maxRecDepth 20000 in
theorem gX5_count_X5_tornOnes : GoodIn wsX5_count (wsV RX5 156 RX5 yX5_tornOnes wsX5_tornOnes) := goodIn_app (goodIn_of _ (by decide +kernel)) ggX5_count_X5_tornOnes
set_option maxRecDepth 20000 in
theorem ggX5_count_X5_wrongBy : GoodIn wsX5_count wsX5_wrongBy := goodIn_r _ [21, 1, 22, 23, 24, 7, 25, 14, 15, 16, 17, 26, 27, 28, 29, 30, 31, 32, 33, 34, 35, 36, 37, 38, 39, 40, 41, 42, 43, 44, 45, 46, 47, 48, 49, 50, 51, 52, 60, 61, 62, 63, 64, 65, 66, 67, 68, 69, 70, 71, 72] (by decide +kernel) (by decide +kernel)
set_option maxRecDepth 20000 in
theorem gX5_count_X5_wrongBy : GoodIn wsX5_count (wsV RX5 144 RX5 yX5_wrongBy wsX5_wrongBy) := goodIn_app (goodIn_of _ (by decide +kernel)) ggX5_count_X5_wrongBy
set_option maxRecDepth 20000 in
theorem ggX5_count_X5_widest : GoodIn wsX5_count wsX5_widest := goodIn_r _ [56, 9, 1, 42, 43, 44, 7, 45, 14, 15, 16, 17, 46, 47, 48, 60, 61, 62, 63, 64, 65, 66, 67, 68, 69, 70, 71, 72] (by decide +kernel) (by decide +kernel)
set_option maxRecDepth 20000 in
theorem gX5_count_X5_widest : GoodIn wsX5_count (wsV RX5 169 RX5 yX5_widest wsX5_widest) := goodIn_app (goodIn_of _ (by decide +kernel)) ggX5_count_X5_widest
set_option maxRecDepth 20000 in
theorem ggX5_count_X5_in : GoodIn wsX5_count wsX5_in := goodIn_r _ [59] (by decide +kernel) (by decide +kernel)
set_option maxRecDepth 20000 in
theorem gX5_count_X5_in : GoodIn wsX5_count (va_wsS RX5 61 yX5_in wsX5_in) := goodIn_app (goodIn_of _ (by decide +kernel)) ggX5_count_X5_in
theorem dX5_count_0 : decode cX5_count 0 = .ok (.iload_n 1, 1) := by decide +kernel
theorem dX5_count_1 : decode cX5_count 1 = .ok (.tableswitch 124 0 12 #[67, 74, 67, 74, 84, 89, 89, 89, 89, 98, 109, 114, 119], 67) := by decide +kernel
theorem dX5_count_68 : decode cX5_count 68 = .ok (.aload_n 0, 1) := by decide +kernel
theorem dX5_count_69 : decode cX5_count 69 = .ok (.getfield 7, 3) := by decide +kernel
theorem dX5_count_72 : decode cX5_count 72 = .ok (.iload_n 1, 1) := by decide +kernel
theorem dX5_count_73 : decode cX5_count 73 = .ok (.iaload, 1) := by decide +kernel
theorem dX5_count_74 : decode cX5_count 74 = .ok (.ireturn, 1) := by decide +kernel
theorem dX5_count_75 : decode cX5_count 75 = .ok (.aload_n 0, 1) := by decide +kernel
theorem dX5_count_76 : decode cX5_count 76 = .ok (.getfield 7, 3) := by decide +kernel
theorem dX5_count_79 : decode cX5_count 79 = .ok (.iload_n 1, 1) := by decide +kernel
theorem dX5_count_80 : decode cX5_count 80 = .ok (.iaload, 1) := by decide +kernel
theorem dX5_count_81 : decode cX5_count 81 = .ok (.invokestatic 166, 3) := by decide +kernel
theorem dX5_count_84 : decode cX5_count 84 = .ok (.ireturn, 1) := by decide +kernel
theorem dX5_count_85 : decode cX5_count 85 = .ok (.aload_n 0, 1) := by decide +kernel
theorem dX5_count_86 : decode cX5_count 86 = .ok (.invokevirtual 156, 3) := by decide +kernel
theorem dX5_count_89 : decode cX5_count 89 = .ok (.ireturn, 1) := by decide +kernel
theorem dX5_count_90 : decode cX5_count 90 = .ok (.aload_n 0, 1) := by decide +kernel
theorem dX5_count_91 : decode cX5_count 91 = .ok (.getfield 7, 3) := by decide +kernel
theorem dX5_count_94 : decode cX5_count 94 = .ok (.iload_n 1, 1) := by decide +kernel
theorem dX5_count_95 : decode cX5_count 95 = .ok (.iconst 1, 1) := by decide +kernel
theorem dX5_count_96 : decode cX5_count 96 = .ok (.isub, 1) := by decide +kernel
theorem dX5_count_97 : decode cX5_count 97 = .ok (.iaload, 1) := by decide +kernel
theorem dX5_count_98 : decode cX5_count 98 = .ok (.ireturn, 1) := by decide +kernel
theorem dX5_count_99 : decode cX5_count 99 = .ok (.aload_n 0, 1) := by decide +kernel
theorem dX5_count_100 : decode cX5_count 100 = .ok (.aload_n 0, 1) := by decide +kernel
theorem dX5_count_101 : decode cX5_count 101 = .ok (.getfield 7, 3) := by decide +kernel
theorem dX5_count_104 : decode cX5_count 104 = .ok (.iconst 1, 1) := by decide +kernel
theorem dX5_count_105 : decode cX5_count 105 = .ok (.iaload, 1) := by decide +kernel
theorem dX5_count_106 : decode cX5_count 106 = .ok (.invokevirtual 144, 3) := by decide +kernel
theorem dX5_count_109 : decode cX5_count 109 = .ok (.ireturn, 1) := by decide +kernel
theorem dX5_count_110 : decode cX5_count 110 = .ok (.aload_n 0, 1) := by decide +kernel
theorem dX5_count_111 : decode cX5_count 111 = .ok (.invokevirtual 169, 3) := by decide +kernel
theorem dX5_count_114 : decode cX5_count 114 = .ok (.ireturn, 1) := by decide +kernel
theorem dX5_count_115 : decode cX5_count 115 = .ok (.aload_n 0, 1) := by decide +kernel
theorem dX5_count_116 : decode cX5_count 116 = .ok (.getfield 22, 3) := by decide +kernel
theorem dX5_count_119 : decode cX5_count 119 = .ok (.ireturn, 1) := by decide +kernel
theorem dX5_count_120 : decode cX5_count 120 = .ok (.aload_n 0, 1) := by decide +kernel
theorem dX5_count_121 : decode cX5_count 121 = .ok (.getfield 55, 3) := by decide +kernel
theorem dX5_count_124 : decode cX5_count 124 = .ok (.ireturn, 1) := by decide +kernel
theorem dX5_count_125 : decode cX5_count 125 = .ok (.iload_n 1, 1) := by decide +kernel
theorem dX5_count_126 : decode cX5_count 126 = .ok (.bipush 20, 2) := by decide +kernel
theorem dX5_count_128 : decode cX5_count 128 = .ok (.bipush 22, 2) := by decide +kernel
theorem dX5_count_130 : decode cX5_count 130 = .ok (.invokestatic 61, 3) := by decide +kernel
theorem dX5_count_133 : decode cX5_count 133 = .ok (.ifCond .eq 18, 3) := by decide +kernel
theorem dX5_count_136 : decode cX5_count 136 = .ok (.aload_n 0, 1) := by decide +kernel
theorem dX5_count_137 : decode cX5_count 137 = .ok (.getfield 7, 3) := by decide +kernel
theorem dX5_count_140 : decode cX5_count 140 = .ok (.bipush 8, 2) := by decide +kernel
theorem dX5_count_142 : decode cX5_count 142 = .ok (.iload_n 1, 1) := by decide +kernel
theorem dX5_count_143 : decode cX5_count 143 = .ok (.iadd, 1) := by decide +kernel
theorem dX5_count_144 : decode cX5_count 144 = .ok (.bipush 20, 2) := by decide +kernel
theorem dX5_count_146 : decode cX5_count 146 = .ok (.isub, 1) := by decide +kernel
theorem dX5_count_147 : decode cX5_count 147 = .ok (.iaload, 1) := by decide +kernel
theorem dX5_count_148 : decode cX5_count 148 = .ok (.goto 5, 3) := by decide +kernel
theorem dX5_count_151 : decode cX5_count 151 = .ok (.ldc 92, 2) := by decide +kernel
theorem dX5_count_153 : decode cX5_count 153 = .ok (.ireturn, 1) := by decide +kernel
theorem dX5_undo_0 : decode cX5_undo 0 = .ok (.aload_n 0, 1) := by decide +kernel
theorem dX5_undo_1 : decode cX5_undo 1 = .ok (.getfield 22, 3) := by decide +kernel
theorem dX5_undo_4 : decode cX5_undo 4 = .ok (.ifCond .ne 6, 3) := by decide +kernel
theorem dX5_undo_7 : decode cX5_undo 7 = .ok (.ldc 101, 2) := by decide +kernel
theorem dX5_undo_9 : decode cX5_undo 9 = .ok (.ireturn, 1) := by decide +kernel
theorem dX5_undo_10 : decode cX5_undo 10 = .ok (.aload_n 0, 1) := by decide +kernel
theorem dX5_undo_11 : decode cX5_undo 11 = .ok (.dup, 1) := by decide +kernel
theorem dX5_undo_12 : decode cX5_undo 12 = .ok (.getfield 22, 3) := by decide +kernel
theorem dX5_undo_15 : decode cX5_undo 15 = .ok (.iconst 1, 1) := by decide +kernel
theorem dX5_undo_16 : decode cX5_undo 16 = .ok (.isub, 1) := by decide +kernel
theorem dX5_undo_17 : decode cX5_undo 17 = .ok (.putfield 22, 3) := by decide +kernel
theorem dX5_undo_20 : decode cX5_undo 20 = .ok (.iconst 0, 1) := by decide +kernel
theorem dX5_undo_21 : decode cX5_undo 21 = .ok (.istore_n 1, 1) := by decide +kernel
theorem dX5_undo_22 : decode cX5_undo 22 = .ok (.iload_n 1, 1) := by decide +kernel
theorem dX5_undo_23 : decode cX5_undo 23 = .ok (.sipush 369, 3) := by decide +kernel
theorem dX5_undo_26 : decode cX5_undo 26 = .ok (.if_icmp .ge 30, 3) := by decide +kernel
theorem dX5_undo_29 : decode cX5_undo 29 = .ok (.aload_n 0, 1) := by decide +kernel
theorem dX5_undo_30 : decode cX5_undo 30 = .ok (.getfield 7, 3) := by decide +kernel
theorem dX5_undo_33 : decode cX5_undo 33 = .ok (.iload_n 1, 1) := by decide +kernel
theorem dX5_undo_34 : decode cX5_undo 34 = .ok (.aload_n 0, 1) := by decide +kernel
theorem dX5_undo_35 : decode cX5_undo 35 = .ok (.getfield 13, 3) := by decide +kernel
theorem dX5_undo_38 : decode cX5_undo 38 = .ok (.sipush 369, 3) := by decide +kernel
theorem dX5_undo_41 : decode cX5_undo 41 = .ok (.aload_n 0, 1) := by decide +kernel
theorem dX5_undo_42 : decode cX5_undo 42 = .ok (.getfield 22, 3) := by decide +kernel
theorem dX5_undo_45 : decode cX5_undo 45 = .ok (.imul, 1) := by decide +kernel
theorem dX5_undo_46 : decode cX5_undo 46 = .ok (.iload_n 1, 1) := by decide +kernel
theorem dX5_undo_47 : decode cX5_undo 47 = .ok (.iadd, 1) := by decide +kernel
theorem dX5_undo_48 : decode cX5_undo 48 = .ok (.iaload, 1) := by decide +kernel
theorem dX5_undo_49 : decode cX5_undo 49 = .ok (.iastore, 1) := by decide +kernel
theorem dX5_undo_50 : decode cX5_undo 50 = .ok (.iinc 1 1, 3) := by decide +kernel
theorem dX5_undo_53 : decode cX5_undo 53 = .ok (.goto (-31), 3) := by decide +kernel
theorem dX5_undo_56 : decode cX5_undo 56 = .ok (.aload_n 0, 1) := by decide +kernel
theorem dX5_undo_57 : decode cX5_undo 57 = .ok (.getfield 22, 3) := by decide +kernel
theorem dX5_undo_60 : decode cX5_undo 60 = .ok (.ireturn, 1) := by decide +kernel
set_option maxRecDepth 20000 in
theorem ggX5_type_X5_in : GoodIn wsX5_type wsX5_in := goodIn_r _ [8] (by decide +kernel) (by decide +kernel)
set_option maxRecDepth 20000 in
theorem gX5_type_X5_in : GoodIn wsX5_type (va_wsS RX5 61 yX5_in wsX5_in) := goodIn_app (goodIn_of _ (by decide +kernel)) ggX5_type_X5_in
theorem dX5_type_0 : decode cX5_type 0 = .ok (.iload_n 1, 1) := by decide +kernel
theorem dX5_type_1 : decode cX5_type 1 = .ok (.bipush 32, 2) := by decide +kernel
theorem dX5_type_3 : decode cX5_type 3 = .ok (.bipush 126, 2) := by decide +kernel
theorem dX5_type_5 : decode cX5_type 5 = .ok (.invokestatic 61, 3) := by decide +kernel
theorem dX5_type_8 : decode cX5_type 8 = .ok (.ifCond .ne 6, 3) := by decide +kernel
theorem dX5_type_11 : decode cX5_type 11 = .ok (.ldc 92, 2) := by decide +kernel
theorem dX5_type_13 : decode cX5_type 13 = .ok (.ireturn, 1) := by decide +kernel
theorem dX5_type_14 : decode cX5_type 14 = .ok (.aload_n 0, 1) := by decide +kernel
theorem dX5_type_15 : decode cX5_type 15 = .ok (.getfield 55, 3) := by decide +kernel
theorem dX5_type_18 : decode cX5_type 18 = .ok (.bipush 60, 2) := by decide +kernel
theorem dX5_type_20 : decode cX5_type 20 = .ok (.if_icmp .ne 6, 3) := by decide +kernel
theorem dX5_type_23 : decode cX5_type 23 = .ok (.ldc 134, 2) := by decide +kernel
theorem dX5_type_25 : decode cX5_type 25 = .ok (.ireturn, 1) := by decide +kernel
theorem dX5_type_26 : decode cX5_type 26 = .ok (.aload_n 0, 1) := by decide +kernel
theorem dX5_type_27 : decode cX5_type 27 = .ok (.getfield 19, 3) := by decide +kernel
theorem dX5_type_30 : decode cX5_type 30 = .ok (.aload_n 0, 1) := by decide +kernel
theorem dX5_type_31 : decode cX5_type 31 = .ok (.getfield 55, 3) := by decide +kernel
theorem dX5_type_34 : decode cX5_type 34 = .ok (.iload_n 1, 1) := by decide +kernel
theorem dX5_type_35 : decode cX5_type 35 = .ok (.iastore, 1) := by decide +kernel
theorem dX5_type_36 : decode cX5_type 36 = .ok (.aload_n 0, 1) := by decide +kernel
theorem dX5_type_37 : decode cX5_type 37 = .ok (.dup, 1) := by decide +kernel
theorem dX5_type_38 : decode cX5_type 38 = .ok (.getfield 55, 3) := by decide +kernel
theorem dX5_type_41 : decode cX5_type 41 = .ok (.iconst 1, 1) := by decide +kernel
theorem dX5_type_42 : decode cX5_type 42 = .ok (.iadd, 1) := by decide +kernel
theorem dX5_type_43 : decode cX5_type 43 = .ok (.putfield 55, 3) := by decide +kernel
theorem dX5_type_46 : decode cX5_type 46 = .ok (.aload_n 0, 1) := by decide +kernel
theorem dX5_type_47 : decode cX5_type 47 = .ok (.getfield 55, 3) := by decide +kernel
theorem dX5_type_50 : decode cX5_type 50 = .ok (.ireturn, 1) := by decide +kernel
theorem dX5_clearText_0 : decode cX5_clearText 0 = .ok (.aload_n 0, 1) := by decide +kernel
theorem dX5_clearText_1 : decode cX5_clearText 1 = .ok (.getfield 55, 3) := by decide +kernel
theorem dX5_clearText_4 : decode cX5_clearText 4 = .ok (.istore_n 1, 1) := by decide +kernel
theorem dX5_clearText_5 : decode cX5_clearText 5 = .ok (.aload_n 0, 1) := by decide +kernel
theorem dX5_clearText_6 : decode cX5_clearText 6 = .ok (.iconst 0, 1) := by decide +kernel
theorem dX5_clearText_7 : decode cX5_clearText 7 = .ok (.putfield 55, 3) := by decide +kernel
theorem dX5_clearText_10 : decode cX5_clearText 10 = .ok (.iload_n 1, 1) := by decide +kernel
theorem dX5_clearText_11 : decode cX5_clearText 11 = .ok (.ireturn, 1) := by decide +kernel
