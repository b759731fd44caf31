set_option maxRecDepth 20000 in
theorem ggX4_init_X3_init : GoodIn wsX4_init wsX3_init := goodIn_r _ [16, 17, 2, 3, 18, 19, 20, 48, 49] (by decide +kernel) (by decide +kernel)
set_option maxRecDepth 20000 in
theorem gX4_init_X3_init : GoodIn wsX4_init (wsX3_init) := ggX4_init_X3_init
set_option maxRecDepth 20000 in
theorem ggX4_init_X0_init : GoodIn wsX4_init wsX0_init := goodIn_r _ [23, 24, 2, 3, 25, 26, 27, 28, 29, 30, 31, 32, 33, 34, 35, 36, 37, 38, 39, 40, 41, 42, 43, 18, 44, 45, 46, 47, 54, 55, 56, 57, 58, 59, 60, 61, 62, 63, 64, 65, 66, 67, 68, 69, 70, 71] (by decide +kernel) (by decide +kernel)
set_option maxRecDepth 20000 in
theorem gX4_init_X0_init : GoodIn wsX4_init (wsX0_init) := ggX4_init_X0_init
theorem dX4_init_0 : decode cX4_init 0 = .ok (.aload_n 0, 1) := by decide +kernel
theorem dX4_init_1 : decode cX4_init 1 = .ok (.invokespecial 1, 3) := by decide +kernel
theorem dX4_init_4 : decode cX4_init 4 = .ok (.aload_n 0, 1) := by decide +kernel
theorem dX4_init_5 : decode cX4_init 5 = .ok (.new 7, 3) := by decide +kernel
theorem dX4_init_8 : decode cX4_init 8 = .ok (.dup, 1) := by decide +kernel
theorem dX4_init_9 : decode cX4_init 9 = .ok (.invokespecial 9, 3) := by decide +kernel
theorem dX4_init_12 : decode cX4_init 12 = .ok (.putfield 10, 3) := by decide +kernel
theorem dX4_init_15 : decode cX4_init 15 = .ok (.aload_n 0, 1) := by decide +kernel
theorem dX4_init_16 : decode cX4_init 16 = .ok (.new 16, 3) := by decide +kernel
theorem dX4_init_19 : decode cX4_init 19 = .ok (.dup, 1) := by decide +kernel
theorem dX4_init_20 : decode cX4_init 20 = .ok (.invokespecial 18, 3) := by decide +kernel
theorem dX4_init_23 : decode cX4_init 23 = .ok (.putfield 19, 3) := by decide +kernel
theorem dX4_init_26 : decode cX4_init 26 = .ok (.aload_n 0, 1) := by decide +kernel
theorem dX4_init_27 : decode cX4_init 27 = .ok (.iconst 4, 1) := by decide +kernel
theorem dX4_init_28 : decode cX4_init 28 = .ok (.anewarray 16, 3) := by decide +kernel
theorem dX4_init_31 : decode cX4_init 31 = .ok (.putfield 23, 3) := by decide +kernel
theorem dX4_init_34 : decode cX4_init 34 = .ok (.iconst 0, 1) := by decide +kernel
theorem dX4_init_35 : decode cX4_init 35 = .ok (.istore_n 1, 1) := by decide +kernel
theorem dX4_init_36 : decode cX4_init 36 = .ok (.iload_n 1, 1) := by decide +kernel
theorem dX4_init_37 : decode cX4_init 37 = .ok (.iconst 4, 1) := by decide +kernel
theorem dX4_init_38 : decode cX4_init 38 = .ok (.if_icmp .ge 22, 3) := by decide +kernel
theorem dX4_init_41 : decode cX4_init 41 = .ok (.aload_n 0, 1) := by decide +kernel
theorem dX4_init_42 : decode cX4_init 42 = .ok (.getfield 23, 3) := by decide +kernel
theorem dX4_init_45 : decode cX4_init 45 = .ok (.iload_n 1, 1) := by decide +kernel
theorem dX4_init_46 : decode cX4_init 46 = .ok (.new 16, 3) := by decide +kernel
theorem dX4_init_49 : decode cX4_init 49 = .ok (.dup, 1) := by decide +kernel
theorem dX4_init_50 : decode cX4_init 50 = .ok (.invokespecial 18, 3) := by decide +kernel
theorem dX4_init_53 : decode cX4_init 53 = .ok (.aastore, 1) := by decide +kernel
theorem dX4_init_54 : decode cX4_init 54 = .ok (.iinc 1 1, 3) := by decide +kernel
theorem dX4_init_57 : decode cX4_init 57 = .ok (.goto (-21), 3) := by decide +kernel
theorem dX4_init_60 : decode cX4_init 60 = .ok (.aload_n 0, 1) := by decide +kernel
theorem dX4_init_61 : decode cX4_init 61 = .ok (.iconst 0, 1) := by decide +kernel
theorem dX4_init_62 : decode cX4_init 62 = .ok (.putfield 27, 3) := by decide +kernel
theorem dX4_init_65 : decode cX4_init 65 = .ok (.return_, 1) := by decide +kernel
set_option maxRecDepth 20000 in
theorem ggX4_add_X4_faultPlace : GoodIn wsX4_add wsX4_faultPlace := goodIn_r _ [9, 2, 3, 10, 11, 12, 13, 14, 15, 16, 17, 18, 19, 8, 20, 4, 21, 22, 23, 24, 25, 26, 27, 28, 29, 30, 31, 32, 33, 34, 35, 36, 37, 38, 39, 40, 41, 42, 43, 44, 45, 97, 98, 99, 100, 101, 102, 103, 104, 105, 106, 107, 108, 109, 110, 111, 112, 113] (by decide +kernel) (by decide +kernel)
set_option maxRecDepth 20000 in
theorem gX4_add_X4_faultPlace : GoodIn wsX4_add (wsV RX4 31 RX4 yX4_faultPlace wsX4_faultPlace) := goodIn_app (goodIn_of _ (by decide +kernel)) ggX4_add_X4_faultPlace
set_option maxRecDepth 20000 in
theorem ggX4_add_X4_remember : GoodIn wsX4_add wsX4_remember := goodIn_r _ [49, 50, 51, 4, 52, 53, 54, 43, 55, 56, 57, 45, 58, 59, 60, 61, 62, 63, 64, 65, 66, 67, 68, 69, 70, 71, 72, 73, 74, 75, 76, 77, 78, 79, 80, 81, 82, 83, 84, 85, 86, 87, 97, 98, 99, 100, 103, 104, 105, 106, 107, 108, 109, 110, 111, 112, 113, 114, 115, 116, 117, 118, 119, 120] (by decide +kernel) (by decide +kernel)
set_option maxRecDepth 20000 in
theorem gX4_add_X4_remember : GoodIn wsX4_add (wsV RX4 36 RX4 yX4_remember wsX4_remember) := goodIn_app (goodIn_of _ (by decide +kernel)) ggX4_add_X4_remember
set_option maxRecDepth 20000 in
theorem ggX4_add_X3_namesAhead : GoodIn wsX4_add wsX3_namesAhead := goodIn_r _ [14, 15, 16, 101, 102] (by decide +kernel) (by decide +kernel)
set_option maxRecDepth 20000 in
theorem gX4_add_X3_namesAhead : GoodIn wsX4_add (wsV RX4 42 RX3 yX3_namesAhead wsX3_namesAhead) := goodIn_app (goodIn_of _ (by decide +kernel)) ggX4_add_X3_namesAhead
set_option maxRecDepth 20000 in
theorem ggX4_add_X3_endOfName : GoodIn wsX4_add wsX3_endOfName := goodIn_r _ [25, 15, 16, 101, 102] (by decide +kernel) (by decide +kernel)
set_option maxRecDepth 20000 in
theorem gX4_add_X3_endOfName : GoodIn wsX4_add (wsV RX4 46 RX3 yX3_endOfName wsX3_endOfName) := goodIn_app (goodIn_of _ (by decide +kernel)) ggX4_add_X3_endOfName
set_option maxRecDepth 20000 in
theorem ggX4_add_X0_append : GoodIn wsX4_add wsX0_append := goodIn_r _ [91, 62, 56, 92, 93, 94, 73, 95, 77, 75, 96, 78, 79, 103, 104, 105, 106, 107, 108, 109, 110, 111, 112, 113, 114, 115, 116, 117, 101, 102] (by decide +kernel) (by decide +kernel)
set_option maxRecDepth 20000 in
theorem gX4_add_X0_append : GoodIn wsX4_add (wsV RX4 49 RX0 yX0_append wsX0_append) := goodIn_app (goodIn_of _ (by decide +kernel)) ggX4_add_X0_append
theorem dX4_add_0 : decode cX4_add 0 = .ok (.aload_n 0, 1) := by decide +kernel
theorem dX4_add_1 : decode cX4_add 1 = .ok (.invokevirtual 31, 3) := by decide +kernel
theorem dX4_add_4 : decode cX4_add 4 = .ok (.iconst (-1), 1) := by decide +kernel
theorem dX4_add_5 : decode cX4_add 5 = .ok (.if_icmp .eq 6, 3) := by decide +kernel
theorem dX4_add_8 : decode cX4_add 8 = .ok (.ldc 35, 2) := by decide +kernel
theorem dX4_add_10 : decode cX4_add 10 = .ok (.ireturn, 1) := by decide +kernel
theorem dX4_add_11 : decode cX4_add 11 = .ok (.aload_n 0, 1) := by decide +kernel
theorem dX4_add_12 : decode cX4_add 12 = .ok (.invokevirtual 36, 3) := by decide +kernel
theorem dX4_add_15 : decode cX4_add 15 = .ok (.aload_n 0, 1) := by decide +kernel
theorem dX4_add_16 : decode cX4_add 16 = .ok (.getfield 10, 3) := by decide +kernel
theorem dX4_add_19 : decode cX4_add 19 = .ok (.aload_n 0, 1) := by decide +kernel
theorem dX4_add_20 : decode cX4_add 20 = .ok (.getfield 10, 3) := by decide +kernel
theorem dX4_add_23 : decode cX4_add 23 = .ok (.getfield 39, 3) := by decide +kernel
theorem dX4_add_26 : decode cX4_add 26 = .ok (.invokevirtual 42, 3) := by decide +kernel
theorem dX4_add_29 : decode cX4_add 29 = .ok (.iconst 1, 1) := by decide +kernel
theorem dX4_add_30 : decode cX4_add 30 = .ok (.iadd, 1) := by decide +kernel
theorem dX4_add_31 : decode cX4_add 31 = .ok (.istore_n 1, 1) := by decide +kernel
theorem dX4_add_32 : decode cX4_add 32 = .ok (.iconst 0, 1) := by decide +kernel
theorem dX4_add_33 : decode cX4_add 33 = .ok (.istore_n 2, 1) := by decide +kernel
theorem dX4_add_34 : decode cX4_add 34 = .ok (.iconst 0, 1) := by decide +kernel
theorem dX4_add_35 : decode cX4_add 35 = .ok (.istore_n 3, 1) := by decide +kernel
theorem dX4_add_36 : decode cX4_add 36 = .ok (.iload_n 3, 1) := by decide +kernel
theorem dX4_add_37 : decode cX4_add 37 = .ok (.iload_n 1, 1) := by decide +kernel
theorem dX4_add_38 : decode cX4_add 38 = .ok (.if_icmp .ge 38, 3) := by decide +kernel
theorem dX4_add_41 : decode cX4_add 41 = .ok (.aload_n 0, 1) := by decide +kernel
theorem dX4_add_42 : decode cX4_add 42 = .ok (.getfield 10, 3) := by decide +kernel
theorem dX4_add_45 : decode cX4_add 45 = .ok (.iload_n 2, 1) := by decide +kernel
theorem dX4_add_46 : decode cX4_add 46 = .ok (.invokevirtual 46, 3) := by decide +kernel
theorem dX4_add_49 : decode cX4_add 49 = .ok (.istore 4, 2) := by decide +kernel
theorem dX4_add_51 : decode cX4_add 51 = .ok (.aload_n 0, 1) := by decide +kernel
theorem dX4_add_52 : decode cX4_add 52 = .ok (.getfield 19, 3) := by decide +kernel
theorem dX4_add_55 : decode cX4_add 55 = .ok (.aload_n 0, 1) := by decide +kernel
theorem dX4_add_56 : decode cX4_add 56 = .ok (.getfield 10, 3) := by decide +kernel
theorem dX4_add_59 : decode cX4_add 59 = .ok (.iload_n 2, 1) := by decide +kernel
theorem dX4_add_60 : decode cX4_add 60 = .ok (.iload 4, 2) := by decide +kernel
theorem dX4_add_62 : decode cX4_add 62 = .ok (.invokevirtual 49, 3) := by decide +kernel
theorem dX4_add_65 : decode cX4_add 65 = .ok (.iload 4, 2) := by decide +kernel
theorem dX4_add_67 : decode cX4_add 67 = .ok (.iconst 1, 1) := by decide +kernel
theorem dX4_add_68 : decode cX4_add 68 = .ok (.iadd, 1) := by decide +kernel
theorem dX4_add_69 : decode cX4_add 69 = .ok (.istore_n 2, 1) := by decide +kernel
theorem dX4_add_70 : decode cX4_add 70 = .ok (.iinc 3 1, 3) := by decide +kernel
theorem dX4_add_73 : decode cX4_add 73 = .ok (.goto (-37), 3) := by decide +kernel
theorem dX4_add_76 : decode cX4_add 76 = .ok (.iload_n 1, 1) := by decide +kernel
theorem dX4_add_77 : decode cX4_add 77 = .ok (.ireturn, 1) := by decide +kernel
set_option maxRecDepth 20000 in
theorem ggX4_cut_X0_hasRow : GoodIn wsX4_cut wsX0_hasRow := goodIn_r _ [9, 10, 66, 67, 68, 69, 70, 71, 72, 73, 74, 75, 76] (by decide +kernel) (by decide +kernel)
set_option maxRecDepth 20000 in
theorem gX4_cut_X0_hasRow : GoodIn wsX4_cut (wsV RX4 53 RX0 yX0_hasRow wsX0_hasRow) := goodIn_app (goodIn_of _ (by decide +kernel)) ggX4_cut_X0_hasRow
set_option maxRecDepth 20000 in
theorem ggX4_cut_X4_remember : GoodIn wsX4_cut wsX4_remember := goodIn_r _ [15, 16, 17, 1, 18, 19, 20, 8, 21, 22, 23, 24, 25, 26, 27, 28, 10, 29, 30, 31, 32, 33, 34, 35, 36, 37, 38, 39, 40, 41, 42, 43, 44, 45, 46, 47, 48, 49, 50, 51, 52, 53, 62, 63, 64, 65, 66, 67, 68, 69, 70, 71, 72, 73, 74, 75, 76, 77, 78, 79, 80, 81, 82, 83] (by decide +kernel) (by decide +kernel)
set_option maxRecDepth 20000 in
theorem gX4_cut_X4_remember : GoodIn wsX4_cut (wsV RX4 36 RX4 yX4_remember wsX4_remember) := goodIn_app (goodIn_of _ (by decide +kernel)) ggX4_cut_X4_remember
set_option maxRecDepth 20000 in
theorem ggX4_cut_X0_remove : GoodIn wsX4_cut wsX0_remove := goodIn_r _ [57, 22, 10, 30, 23, 29, 58, 59, 60, 49, 61, 51, 66, 67, 68, 69, 70, 71, 72, 73, 74, 75, 76, 81, 82, 83] (by decide +kernel) (by decide +kernel)
set_option maxRecDepth 20000 in
theorem gX4_cut_X0_remove : GoodIn wsX4_cut (wsV RX4 58 RX0 yX0_remove wsX0_remove) := goodIn_app (goodIn_of _ (by decide +kernel)) ggX4_cut_X0_remove
theorem dX4_cut_0 : decode cX4_cut 0 = .ok (.aload_n 0, 1) := by decide +kernel
theorem dX4_cut_1 : decode cX4_cut 1 = .ok (.getfield 19, 3) := by decide +kernel
theorem dX4_cut_4 : decode cX4_cut 4 = .ok (.iload_n 1, 1) := by decide +kernel
theorem dX4_cut_5 : decode cX4_cut 5 = .ok (.invokevirtual 53, 3) := by decide +kernel
theorem dX4_cut_8 : decode cX4_cut 8 = .ok (.ifCond .ne 6, 3) := by decide +kernel
theorem dX4_cut_11 : decode cX4_cut 11 = .ok (.ldc 57, 2) := by decide +kernel
theorem dX4_cut_13 : decode cX4_cut 13 = .ok (.ireturn, 1) := by decide +kernel
theorem dX4_cut_14 : decode cX4_cut 14 = .ok (.aload_n 0, 1) := by decide +kernel
theorem dX4_cut_15 : decode cX4_cut 15 = .ok (.invokevirtual 36, 3) := by decide +kernel
theorem dX4_cut_18 : decode cX4_cut 18 = .ok (.aload_n 0, 1) := by decide +kernel
theorem dX4_cut_19 : decode cX4_cut 19 = .ok (.getfield 19, 3) := by decide +kernel
theorem dX4_cut_22 : decode cX4_cut 22 = .ok (.iload_n 1, 1) := by decide +kernel
theorem dX4_cut_23 : decode cX4_cut 23 = .ok (.invokevirtual 58, 3) := by decide +kernel
theorem dX4_cut_26 : decode cX4_cut 26 = .ok (.aload_n 0, 1) := by decide +kernel
theorem dX4_cut_27 : decode cX4_cut 27 = .ok (.getfield 19, 3) := by decide +kernel
theorem dX4_cut_30 : decode cX4_cut 30 = .ok (.getfield 62, 3) := by decide +kernel
theorem dX4_cut_33 : decode cX4_cut 33 = .ok (.ifCond .ne 7, 3) := by decide +kernel
theorem dX4_cut_36 : decode cX4_cut 36 = .ok (.iconst (-1), 1) := by decide +kernel
theorem dX4_cut_37 : decode cX4_cut 37 = .ok (.goto 10, 3) := by decide +kernel
theorem dX4_cut_40 : decode cX4_cut 40 = .ok (.aload_n 0, 1) := by decide +kernel
theorem dX4_cut_41 : decode cX4_cut 41 = .ok (.getfield 19, 3) := by decide +kernel
theorem dX4_cut_44 : decode cX4_cut 44 = .ok (.getfield 65, 3) := by decide +kernel
theorem dX4_cut_47 : decode cX4_cut 47 = .ok (.ireturn, 1) := by decide +kernel
set_option maxRecDepth 20000 in
theorem ggX4_swap_X0_hasRow : GoodIn wsX4_swap wsX0_hasRow := goodIn_r _ [8, 9, 69, 70, 71, 72, 73, 74, 75, 76, 77, 78, 79] (by decide +kernel) (by decide +kernel)
set_option maxRecDepth 20000 in
theorem gX4_swap_X0_hasRow : GoodIn wsX4_swap (wsV RX4 53 RX0 yX0_hasRow wsX0_hasRow) := goodIn_app (goodIn_of _ (by decide +kernel)) ggX4_swap_X0_hasRow
set_option maxRecDepth 20000 in
theorem ggX4_swap_X4_remember : GoodIn wsX4_swap wsX4_remember := goodIn_r _ [14, 15, 16, 1, 17, 18, 19, 7, 20, 21, 22, 23, 24, 25, 26, 27, 9, 28, 29, 30, 31, 32, 33, 34, 35, 36, 37, 38, 39, 40, 41, 42, 43, 44, 45, 46, 47, 48, 49, 50, 51, 52, 65, 66, 67, 68, 69, 70, 71, 72, 73, 74, 75, 76, 77, 78, 79, 80, 81, 82, 83, 84, 85, 86] (by decide +kernel) (by decide +kernel)
set_option maxRecDepth 20000 in
theorem gX4_swap_X4_remember : GoodIn wsX4_swap (wsV RX4 36 RX4 yX4_remember wsX4_remember) := goodIn_app (goodIn_of _ (by decide +kernel)) ggX4_swap_X4_remember
set_option maxRecDepth 20000 in
theorem ggX4_swap_X0_exchange : GoodIn wsX4_swap wsX0_exchange := goodIn_r _ [56, 21, 29, 22, 57, 58, 59, 48, 60, 50, 61, 62, 63, 64, 69, 70, 71, 72, 73, 74, 75, 76, 77, 78, 79, 84, 85, 86] (by decide +kernel) (by decide +kernel)
set_option maxRecDepth 20000 in
theorem gX4_swap_X0_exchange : GoodIn wsX4_swap (wsV RX4 68 RX0 yX0_exchange wsX0_exchange) := goodIn_app (goodIn_of _ (by decide +kernel)) ggX4_swap_X0_exchange
theorem dX4_swap_0 : decode cX4_swap 0 = .ok (.aload_n 0, 1) := by decide +kernel
theorem dX4_swap_1 : decode cX4_swap 1 = .ok (.getfield 19, 3) := by decide +kernel
theorem dX4_swap_4 : decode cX4_swap 4 = .ok (.iload_n 1, 1) := by decide +kernel
theorem dX4_swap_5 : decode cX4_swap 5 = .ok (.invokevirtual 53, 3) := by decide +kernel
theorem dX4_swap_8 : decode cX4_swap 8 = .ok (.ifCond .eq 19, 3) := by decide +kernel
theorem dX4_swap_11 : decode cX4_swap 11 = .ok (.aload_n 0, 1) := by decide +kernel
theorem dX4_swap_12 : decode cX4_swap 12 = .ok (.getfield 19, 3) := by decide +kernel
theorem dX4_swap_15 : decode cX4_swap 15 = .ok (.iload_n 2, 1) := by decide +kernel
theorem dX4_swap_16 : decode cX4_swap 16 = .ok (.invokevirtual 53, 3) := by decide +kernel
theorem dX4_swap_19 : decode cX4_swap 19 = .ok (.ifCond .eq 8, 3) := by decide +kernel
theorem dX4_swap_22 : decode cX4_swap 22 = .ok (.iload_n 1, 1) := by decide +kernel
theorem dX4_swap_23 : decode cX4_swap 23 = .ok (.iload_n 2, 1) := by decide +kernel
theorem dX4_swap_24 : decode cX4_swap 24 = .ok (.if_icmp .ne 6, 3) := by decide +kernel
theorem dX4_swap_27 : decode cX4_swap 27 = .ok (.ldc 57, 2) := by decide +kernel
theorem dX4_swap_29 : decode cX4_swap 29 = .ok (.ireturn, 1) := by decide +kernel
theorem dX4_swap_30 : decode cX4_swap 30 = .ok (.aload_n 0, 1) := by decide +kernel
theorem dX4_swap_31 : decode cX4_swap 31 = .ok (.invokevirtual 36, 3) := by decide +kernel
theorem dX4_swap_34 : decode cX4_swap 34 = .ok (.aload_n 0, 1) := by decide +kernel
theorem dX4_swap_35 : decode cX4_swap 35 = .ok (.getfield 19, 3) := by decide +kernel
theorem dX4_swap_38 : decode cX4_swap 38 = .ok (.iload_n 1, 1) := by decide +kernel
theorem dX4_swap_39 : decode cX4_swap 39 = .ok (.iload_n 2, 1) := by decide +kernel
theorem dX4_swap_40 : decode cX4_swap 40 = .ok (.invokevirtual 68, 3) := by decide +kernel
theorem dX4_swap_43 : decode cX4_swap 43 = .ok (.aload_n 0, 1) := by decide +kernel
theorem dX4_swap_44 : decode cX4_swap 44 = .ok (.getfield 19, 3) := by decide +kernel
theorem dX4_swap_47 : decode cX4_swap 47 = .ok (.getfield 65, 3) := by decide +kernel
theorem dX4_swap_50 : decode cX4_swap 50 = .ok (.ireturn, 1) := by decide +kernel
set_option maxRecDepth 20000 in
theorem ggX4_mend_X0_hasRow : GoodIn wsX4_mend wsX0_hasRow := goodIn_r _ [11, 12, 64, 65, 66, 67, 68, 69, 70, 71, 72, 73, 74] (by decide +kernel) (by decide +kernel)
set_option maxRecDepth 20000 in
theorem gX4_mend_X0_hasRow : GoodIn wsX4_mend (wsV RX4 53 RX0 yX0_hasRow wsX0_hasRow) := goodIn_app (goodIn_of _ (by decide +kernel)) ggX4_mend_X0_hasRow
set_option maxRecDepth 20000 in
theorem ggX4_mend_X4_remember : GoodIn wsX4_mend wsX4_remember := goodIn_r _ [17, 18, 19, 1, 20, 21, 22, 10, 23, 24, 25, 26, 27, 28, 29, 30, 12, 31, 32, 33, 34, 35, 36, 37, 38, 39, 40, 41, 42, 43, 44, 45, 46, 47, 48, 49, 50, 51, 52, 53, 54, 55, 60, 61, 62, 63, 64, 65, 66, 67, 68, 69, 70, 71, 72, 73, 74, 75, 76, 77, 78, 79, 80, 81] (by decide +kernel) (by decide +kernel)
set_option maxRecDepth 20000 in
theorem gX4_mend_X4_remember : GoodIn wsX4_mend (wsV RX4 36 RX4 yX4_remember wsX4_remember) := goodIn_app (goodIn_of _ (by decide +kernel)) ggX4_mend_X4_remember
set_option maxRecDepth 20000 in
theorem ggX4_mend_X2_patch : GoodIn wsX4_mend wsX2_patch := goodIn_r _ [59, 46, 47, 75, 76, 77, 78] (by decide +kernel) (by decide +kernel)
set_option maxRecDepth 20000 in
theorem gX4_mend_X2_patch : GoodIn wsX4_mend (wsV RX4 82 RX2 yX2_patch wsX2_patch) := goodIn_app (goodIn_of _ (by decide +kernel)) ggX4_mend_X2_patch
theorem dX4_mend_0 : decode cX4_mend 0 = .ok (.aload_n 0, 1) := by decide +kernel
theorem dX4_mend_1 : decode cX4_mend 1 = .ok (.getfield 19, 3) := by decide +kernel
theorem dX4_mend_4 : decode cX4_mend 4 = .ok (.iload_n 1, 1) := by decide +kernel
theorem dX4_mend_5 : decode cX4_mend 5 = .ok (.invokevirtual 53, 3) := by decide +kernel
theorem dX4_mend_8 : decode cX4_mend 8 = .ok (.ifCond .ne 6, 3) := by decide +kernel
theorem dX4_mend_11 : decode cX4_mend 11 = .ok (.ldc 57, 2) := by decide +kernel
theorem dX4_mend_13 : decode cX4_mend 13 = .ok (.ireturn, 1) := by decide +kernel
theorem dX4_mend_14 : decode cX4_mend 14 = .ok (.aload_n 0, 1) := by decide +kernel
theorem dX4_mend_15 : decode cX4_mend 15 = .ok (.getfield 19, 3) := by decide +kernel
theorem dX4_mend_18 : decode cX4_mend 18 = .ok (.getfield 72, 3) := by decide +kernel
theorem dX4_mend_21 : decode cX4_mend 21 = .ok (.iload_n 1, 1) := by decide +kernel
theorem dX4_mend_22 : decode cX4_mend 22 = .ok (.aaload, 1) := by decide +kernel
theorem dX4_mend_23 : decode cX4_mend 23 = .ok (.getfield 76, 3) := by decide +kernel
theorem dX4_mend_26 : decode cX4_mend 26 = .ok (.ifCond .ne 6, 3) := by decide +kernel
theorem dX4_mend_29 : decode cX4_mend 29 = .ok (.ldc 35, 2) := by decide +kernel
theorem dX4_mend_31 : decode cX4_mend 31 = .ok (.ireturn, 1) := by decide +kernel
theorem dX4_mend_32 : decode cX4_mend 32 = .ok (.aload_n 0, 1) := by decide +kernel
theorem dX4_mend_33 : decode cX4_mend 33 = .ok (.invokevirtual 36, 3) := by decide +kernel
theorem dX4_mend_36 : decode cX4_mend 36 = .ok (.aload_n 0, 1) := by decide +kernel
theorem dX4_mend_37 : decode cX4_mend 37 = .ok (.getfield 19, 3) := by decide +kernel
theorem dX4_mend_40 : decode cX4_mend 40 = .ok (.getfield 72, 3) := by decide +kernel
theorem dX4_mend_43 : decode cX4_mend 43 = .ok (.iload_n 1, 1) := by decide +kernel
theorem dX4_mend_44 : decode cX4_mend 44 = .ok (.aaload, 1) := by decide +kernel
theorem dX4_mend_45 : decode cX4_mend 45 = .ok (.invokevirtual 82, 3) := by decide +kernel
theorem dX4_mend_48 : decode cX4_mend 48 = .ok (.aload_n 0, 1) := by decide +kernel
theorem dX4_mend_49 : decode cX4_mend 49 = .ok (.getfield 19, 3) := by decide +kernel
theorem dX4_mend_52 : decode cX4_mend 52 = .ok (.getfield 72, 3) := by decide +kernel
theorem dX4_mend_55 : decode cX4_mend 55 = .ok (.iload_n 1, 1) := by decide +kernel
theorem dX4_mend_56 : decode cX4_mend 56 = .ok (.aaload, 1) := by decide +kernel
theorem dX4_mend_57 : decode cX4_mend 57 = .ok (.getfield 85, 3) := by decide +kernel
theorem dX4_mend_60 : decode cX4_mend 60 = .ok (.ireturn, 1) := by decide +kernel
set_option maxRecDepth 20000 in
theorem ggX4_crank_X4_isCranking : GoodIn wsX4_crank wsX4_isCranking := goodIn_r _ [9] (by decide +kernel) (by decide +kernel)
set_option maxRecDepth 20000 in
theorem gX4_crank_X4_isCranking : GoodIn wsX4_crank (va_wsS RX4 88 yX4_isCranking wsX4_isCranking) := goodIn_app (goodIn_of _ (by decide +kernel)) ggX4_crank_X4_isCranking
set_option maxRecDepth 20000 in
theorem ggX4_crank_X4_remember : GoodIn wsX4_crank wsX4_remember := goodIn_r _ [13, 14, 15, 2, 16, 17, 18, 19, 20, 21, 22, 23, 24, 25, 26, 27, 28, 29, 30, 31, 32, 33, 34, 35, 36, 37, 38, 39, 40, 41, 42, 43, 44, 45, 46, 47, 48, 49, 50, 51, 52, 53, 88, 89, 90, 91, 92, 93, 94, 95, 96, 97, 98, 99, 100, 101, 102, 103, 104, 105, 106, 107, 108, 109] (by decide +kernel) (by decide +kernel)
set_option maxRecDepth 20000 in
theorem gX4_crank_X4_remember : GoodIn wsX4_crank (wsV RX4 36 RX4 yX4_remember wsX4_remember) := goodIn_app (goodIn_of _ (by decide +kernel)) ggX4_crank_X4_remember
set_option maxRecDepth 20000 in
theorem ggX4_crank_X0_roll : GoodIn wsX4_crank wsX0_roll := goodIn_r _ [57, 21, 33, 29, 58, 59, 60, 19, 61, 62, 63, 64, 65, 66, 67, 68, 69, 70, 71, 72, 73, 74, 28, 75, 76, 77, 78, 32, 79, 80, 81, 82, 83, 23, 84, 85, 86, 87, 92, 93, 94, 95, 96, 97, 98, 99, 100, 101, 102, 103, 104, 105, 106] (by decide +kernel) (by decide +kernel)
set_option maxRecDepth 20000 in
theorem gX4_crank_X0_roll : GoodIn wsX4_crank (wsV RX4 92 RX0 yX0_roll wsX0_roll) := goodIn_app (goodIn_of _ (by decide +kernel)) ggX4_crank_X0_roll
theorem dX4_crank_0 : decode cX4_crank 0 = .ok (.iload_n 1, 1) := by decide +kernel
theorem dX4_crank_1 : decode cX4_crank 1 = .ok (.iload_n 2, 1) := by decide +kernel
theorem dX4_crank_2 : decode cX4_crank 2 = .ok (.invokestatic 88, 3) := by decide +kernel
theorem dX4_crank_5 : decode cX4_crank 5 = .ok (.ifCond .ne 6, 3) := by decide +kernel
theorem dX4_crank_8 : decode cX4_crank 8 = .ok (.ldc 57, 2) := by decide +kernel
theorem dX4_crank_10 : decode cX4_crank 10 = .ok (.ireturn, 1) := by decide +kernel
theorem dX4_crank_11 : decode cX4_crank 11 = .ok (.aload_n 0, 1) := by decide +kernel
theorem dX4_crank_12 : decode cX4_crank 12 = .ok (.getfield 19, 3) := by decide +kernel
theorem dX4_crank_15 : decode cX4_crank 15 = .ok (.getfield 62, 3) := by decide +kernel
theorem dX4_crank_18 : decode cX4_crank 18 = .ok (.ifCond .ne 6, 3) := by decide +kernel
theorem dX4_crank_21 : decode cX4_crank 21 = .ok (.ldc 35, 2) := by decide +kernel
theorem dX4_crank_23 : decode cX4_crank 23 = .ok (.ireturn, 1) := by decide +kernel
theorem dX4_crank_24 : decode cX4_crank 24 = .ok (.aload_n 0, 1) := by decide +kernel
theorem dX4_crank_25 : decode cX4_crank 25 = .ok (.invokevirtual 36, 3) := by decide +kernel
theorem dX4_crank_28 : decode cX4_crank 28 = .ok (.aload_n 0, 1) := by decide +kernel
theorem dX4_crank_29 : decode cX4_crank 29 = .ok (.getfield 19, 3) := by decide +kernel
theorem dX4_crank_32 : decode cX4_crank 32 = .ok (.iload_n 1, 1) := by decide +kernel
theorem dX4_crank_33 : decode cX4_crank 33 = .ok (.iload_n 2, 1) := by decide +kernel
theorem dX4_crank_34 : decode cX4_crank 34 = .ok (.invokevirtual 92, 3) := by decide +kernel
theorem dX4_crank_37 : decode cX4_crank 37 = .ok (.aload_n 0, 1) := by decide +kernel
theorem dX4_crank_38 : decode cX4_crank 38 = .ok (.getfield 19, 3) := by decide +kernel
theorem dX4_crank_41 : decode cX4_crank 41 = .ok (.getfield 65, 3) := by decide +kernel
theorem dX4_crank_44 : decode cX4_crank 44 = .ok (.ireturn, 1) := by decide +kernel
set_option maxRecDepth 20000 in
theorem ggX4_route_X4_remember : GoodIn wsX4_route wsX4_remember := goodIn_r _ [10, 11, 12, 1, 13, 14, 15, 16, 17, 18, 19, 20, 21, 22, 23, 24, 25, 26, 27, 28, 29, 30, 31, 32, 33, 34, 35, 36, 37, 38, 39, 40, 41, 42, 43, 44, 45, 46, 47, 48, 49, 50, 59, 60, 61, 62, 63, 64, 65, 66, 67, 68, 69, 70, 71, 72, 73, 74, 75, 76, 77, 78, 79, 80] (by decide +kernel) (by decide +kernel)
set_option maxRecDepth 20000 in
theorem gX4_route_X4_remember : GoodIn wsX4_route (wsV RX4 36 RX4 yX4_remember wsX4_remember) := goodIn_app (goodIn_of _ (by decide +kernel)) ggX4_route_X4_remember
set_option maxRecDepth 20000 in
theorem ggX4_route_X0_appendRoute : GoodIn wsX4_route wsX0_appendRoute := goodIn_r _ [54, 27, 55, 19, 56, 57, 58, 63, 64, 65, 66, 67, 68, 69, 70, 71, 72, 73, 78, 79, 80] (by decide +kernel) (by decide +kernel)
set_option maxRecDepth 20000 in
theorem gX4_route_X0_appendRoute : GoodIn wsX4_route (wsV RX4 99 RX0 yX0_appendRoute wsX0_appendRoute) := goodIn_app (goodIn_of _ (by decide +kernel)) ggX4_route_X0_appendRoute
theorem dX4_route_0 : decode cX4_route 0 = .ok (.iload_n 1, 1) := by decide +kernel
theorem dX4_route_1 : decode cX4_route 1 = .ok (.ifCond .le 15, 3) := by decide +kernel
theorem dX4_route_4 : decode cX4_route 4 = .ok (.iload_n 1, 1) := by decide +kernel
theorem dX4_route_5 : decode cX4_route 5 = .ok (.aload_n 0, 1) := by decide +kernel
theorem dX4_route_6 : decode cX4_route 6 = .ok (.getfield 19, 3) := by decide +kernel
theorem dX4_route_9 : decode cX4_route 9 = .ok (.getfield 62, 3) := by decide +kernel
theorem dX4_route_12 : decode cX4_route 12 = .ok (.ishr, 1) := by decide +kernel
theorem dX4_route_13 : decode cX4_route 13 = .ok (.ifCond .eq 6, 3) := by decide +kernel
theorem dX4_route_16 : decode cX4_route 16 = .ok (.ldc 57, 2) := by decide +kernel
theorem dX4_route_18 : decode cX4_route 18 = .ok (.ireturn, 1) := by decide +kernel
theorem dX4_route_19 : decode cX4_route 19 = .ok (.aload_n 0, 1) := by decide +kernel
theorem dX4_route_20 : decode cX4_route 20 = .ok (.getfield 19, 3) := by decide +kernel
theorem dX4_route_23 : decode cX4_route 23 = .ok (.getfield 95, 3) := by decide +kernel
theorem dX4_route_26 : decode cX4_route 26 = .ok (.bipush 6, 2) := by decide +kernel
theorem dX4_route_28 : decode cX4_route 28 = .ok (.if_icmp .lt 6, 3) := by decide +kernel
theorem dX4_route_31 : decode cX4_route 31 = .ok (.ldc 98, 2) := by decide +kernel
theorem dX4_route_33 : decode cX4_route 33 = .ok (.ireturn, 1) := by decide +kernel
theorem dX4_route_34 : decode cX4_route 34 = .ok (.aload_n 0, 1) := by decide +kernel
theorem dX4_route_35 : decode cX4_route 35 = .ok (.invokevirtual 36, 3) := by decide +kernel
theorem dX4_route_38 : decode cX4_route 38 = .ok (.aload_n 0, 1) := by decide +kernel
theorem dX4_route_39 : decode cX4_route 39 = .ok (.getfield 19, 3) := by decide +kernel
theorem dX4_route_42 : decode cX4_route 42 = .ok (.iload_n 1, 1) := by decide +kernel
theorem dX4_route_43 : decode cX4_route 43 = .ok (.invokevirtual 99, 3) := by decide +kernel
theorem dX4_route_46 : decode cX4_route 46 = .ok (.ireturn, 1) := by decide +kernel
set_option maxRecDepth 20000 in
theorem ggX4_drive_X0_hasRoute : GoodIn wsX4_drive wsX0_hasRoute := goodIn_r _ [8, 9, 57, 58, 59, 60, 61, 62, 63, 64, 65, 66, 67] (by decide +kernel) (by decide +kernel)
set_option maxRecDepth 20000 in
theorem gX4_drive_X0_hasRoute : GoodIn wsX4_drive (wsV RX4 102 RX0 yX0_hasRoute wsX0_hasRoute) := goodIn_app (goodIn_of _ (by decide +kernel)) ggX4_drive_X0_hasRoute
set_option maxRecDepth 20000 in
theorem ggX4_drive_X4_remember : GoodIn wsX4_drive wsX4_remember := goodIn_r _ [14, 15, 16, 1, 17, 18, 19, 7, 20, 21, 22, 23, 24, 25, 26, 27, 28, 29, 9, 30, 31, 32, 33, 34, 35, 36, 37, 38, 39, 40, 41, 42, 43, 44, 45, 46, 47, 48, 49, 50, 51, 52, 53, 54, 55, 56, 57, 58, 59, 60, 61, 62, 63, 64, 65, 66, 67, 68, 69, 70, 71, 72, 73, 74] (by decide +kernel) (by decide +kernel)
set_option maxRecDepth 20000 in
theorem gX4_drive_X4_remember : GoodIn wsX4_drive (wsV RX4 36 RX4 yX4_remember wsX4_remember) := goodIn_app (goodIn_of _ (by decide +kernel)) ggX4_drive_X4_remember
theorem dX4_drive_0 : decode cX4_drive 0 = .ok (.iload_n 1, 1) := by decide +kernel
theorem dX4_drive_1 : decode cX4_drive 1 = .ok (.iconst (-1), 1) := by decide +kernel
theorem dX4_drive_2 : decode cX4_drive 2 = .ok (.if_icmp .eq 17, 3) := by decide +kernel
theorem dX4_drive_5 : decode cX4_drive 5 = .ok (.aload_n 0, 1) := by decide +kernel
theorem dX4_drive_6 : decode cX4_drive 6 = .ok (.getfield 19, 3) := by decide +kernel
theorem dX4_drive_9 : decode cX4_drive 9 = .ok (.iload_n 1, 1) := by decide +kernel
theorem dX4_drive_10 : decode cX4_drive 10 = .ok (.invokevirtual 102, 3) := by decide +kernel
theorem dX4_drive_13 : decode cX4_drive 13 = .ok (.ifCond .ne 6, 3) := by decide +kernel
theorem dX4_drive_16 : decode cX4_drive 16 = .ok (.ldc 57, 2) := by decide +kernel
theorem dX4_drive_18 : decode cX4_drive 18 = .ok (.ireturn, 1) := by decide +kernel
theorem dX4_drive_19 : decode cX4_drive 19 = .ok (.aload_n 0, 1) := by decide +kernel
theorem dX4_drive_20 : decode cX4_drive 20 = .ok (.invokevirtual 36, 3) := by decide +kernel
theorem dX4_drive_23 : decode cX4_drive 23 = .ok (.aload_n 0, 1) := by decide +kernel
theorem dX4_drive_24 : decode cX4_drive 24 = .ok (.getfield 19, 3) := by decide +kernel
theorem dX4_drive_27 : decode cX4_drive 27 = .ok (.getfield 105, 3) := by decide +kernel
theorem dX4_drive_30 : decode cX4_drive 30 = .ok (.istore_n 2, 1) := by decide +kernel
theorem dX4_drive_31 : decode cX4_drive 31 = .ok (.aload_n 0, 1) := by decide +kernel
theorem dX4_drive_32 : decode cX4_drive 32 = .ok (.getfield 19, 3) := by decide +kernel
theorem dX4_drive_35 : decode cX4_drive 35 = .ok (.iload_n 1, 1) := by decide +kernel
theorem dX4_drive_36 : decode cX4_drive 36 = .ok (.putfield 105, 3) := by decide +kernel
theorem dX4_drive_39 : decode cX4_drive 39 = .ok (.iload_n 2, 1) := by decide +kernel
theorem dX4_drive_40 : decode cX4_drive 40 = .ok (.ireturn, 1) := by decide +kernel
set_option maxRecDepth 20000 in
theorem ggX4_stop_X4_remember : GoodIn wsX4_stop wsX4_remember := goodIn_r _ [6, 7, 8, 1, 9, 10, 11, 12, 13, 14, 15, 16, 17, 18, 19, 20, 21, 22, 23, 24, 25, 26, 27, 28, 29, 30, 31, 32, 33, 34, 35, 36, 37, 38, 39, 40, 41, 42, 43, 44, 45, 46, 137, 138, 139, 140, 141, 142, 143, 144, 145, 146, 147, 148, 149, 150, 151, 152, 153, 154, 155, 156, 157, 158] (by decide +kernel) (by decide +kernel)
set_option maxRecDepth 20000 in
theorem gX4_stop_X4_remember : GoodIn wsX4_stop (wsV RX4 36 RX4 yX4_remember wsX4_remember) := goodIn_app (goodIn_of _ (by decide +kernel)) ggX4_stop_X4_remember
set_option maxRecDepth 20000 in
theorem ggX4_stop_X0_halt : GoodIn wsX4_stop wsX0_halt := goodIn_r _ [50, 22, 27, 28, 24, 15, 51, 52, 53, 54, 55, 12, 56, 14, 57, 58, 59, 60, 61, 21, 62, 63, 64, 32, 65, 36, 66, 67, 68, 69, 34, 70, 71, 72, 73, 74, 75, 76, 77, 78, 79, 80, 81, 82, 83, 84, 85, 86, 87, 88, 89, 90, 91, 92, 93, 94, 95, 96, 97, 98, 99, 100, 101, 102, 103, 104, 105, 106, 107, 108, 109, 110, 111, 112, 113, 114, 115, 116, 117, 118, 119, 120, 121, 122, 23, 123, 124, 125, 42, 126, 44, 127, 128, 129, 130, 131, 5, 132, 133, 134, 135, 136, 16, 141, 142, 143, 144, 145, 146, 147, 148, 149, 150, 151, 156, 157, 158, 152, 153, 154, 155] (by decide +kernel) (by decide +kernel)
set_option maxRecDepth 20000 in
theorem gX4_stop_X0_halt : GoodIn wsX4_stop (wsV RX4 108 RX0 yX0_halt wsX0_halt) := goodIn_app (goodIn_of _ (by decide +kernel)) ggX4_stop_X0_halt
theorem dX4_stop_0 : decode cX4_stop 0 = .ok (.aload_n 0, 1) := by decide +kernel
theorem dX4_stop_1 : decode cX4_stop 1 = .ok (.invokevirtual 36, 3) := by decide +kernel
theorem dX4_stop_4 : decode cX4_stop 4 = .ok (.aload_n 0, 1) := by decide +kernel
theorem dX4_stop_5 : decode cX4_stop 5 = .ok (.getfield 19, 3) := by decide +kernel
theorem dX4_stop_8 : decode cX4_stop 8 = .ok (.invokevirtual 108, 3) := by decide +kernel
theorem dX4_stop_11 : decode cX4_stop 11 = .ok (.ireturn, 1) := by decide +kernel
set_option maxRecDepth 20000 in
theorem ggX4_set_X4_remember : GoodIn wsX4_set wsX4_remember := goodIn_r _ [10, 11, 12, 4, 13, 14, 15, 16, 17, 18, 19, 20, 21, 22, 23, 24, 25, 26, 27, 28, 29, 30, 31, 32, 33, 34, 35, 36, 37, 38, 39, 40, 41, 42, 43, 44, 45, 46, 47, 48, 49, 50, 51, 52, 53, 54, 55, 56, 57, 58, 59, 60, 61, 62, 63, 64, 65, 66, 67, 68, 69, 70, 71, 72] (by decide +kernel) (by decide +kernel)
set_option maxRecDepth 20000 in
theorem gX4_set_X4_remember : GoodIn wsX4_set (wsV RX4 36 RX4 yX4_remember wsX4_remember) := goodIn_app (goodIn_of _ (by decide +kernel)) ggX4_set_X4_remember
theorem dX4_set_0 : decode cX4_set 0 = .ok (.iload_n 1, 1) := by decide +kernel
theorem dX4_set_1 : decode cX4_set 1 = .ok (.ifCond .lt 26, 3) := by decide +kernel
theorem dX4_set_4 : decode cX4_set 4 = .ok (.iload_n 1, 1) := by decide +kernel
theorem dX4_set_5 : decode cX4_set 5 = .ok (.iconst 3, 1) := by decide +kernel
theorem dX4_set_6 : decode cX4_set 6 = .ok (.if_icmp .ge 21, 3) := by decide +kernel
theorem dX4_set_9 : decode cX4_set 9 = .ok (.iload_n 2, 1) := by decide +kernel
theorem dX4_set_10 : decode cX4_set 10 = .ok (.getstatic 111, 3) := by decide +kernel
theorem dX4_set_13 : decode cX4_set 13 = .ok (.iload_n 1, 1) := by decide +kernel
theorem dX4_set_14 : decode cX4_set 14 = .ok (.iaload, 1) := by decide +kernel
theorem dX4_set_15 : decode cX4_set 15 = .ok (.if_icmp .lt 12, 3) := by decide +kernel
theorem dX4_set_18 : decode cX4_set 18 = .ok (.iload_n 2, 1) := by decide +kernel
theorem dX4_set_19 : decode cX4_set 19 = .ok (.getstatic 115, 3) := by decide +kernel
theorem dX4_set_22 : decode cX4_set 22 = .ok (.iload_n 1, 1) := by decide +kernel
theorem dX4_set_23 : decode cX4_set 23 = .ok (.iaload, 1) := by decide +kernel
theorem dX4_set_24 : decode cX4_set 24 = .ok (.if_icmp .le 6, 3) := by decide +kernel
theorem dX4_set_27 : decode cX4_set 27 = .ok (.ldc 57, 2) := by decide +kernel
theorem dX4_set_29 : decode cX4_set 29 = .ok (.ireturn, 1) := by decide +kernel
theorem dX4_set_30 : decode cX4_set 30 = .ok (.aload_n 0, 1) := by decide +kernel
theorem dX4_set_31 : decode cX4_set 31 = .ok (.invokevirtual 36, 3) := by decide +kernel
theorem dX4_set_34 : decode cX4_set 34 = .ok (.aload_n 0, 1) := by decide +kernel
theorem dX4_set_35 : decode cX4_set 35 = .ok (.getfield 19, 3) := by decide +kernel
theorem dX4_set_38 : decode cX4_set 38 = .ok (.getfield 118, 3) := by decide +kernel
theorem dX4_set_41 : decode cX4_set 41 = .ok (.iload_n 1, 1) := by decide +kernel
theorem dX4_set_42 : decode cX4_set 42 = .ok (.iaload, 1) := by decide +kernel
theorem dX4_set_43 : decode cX4_set 43 = .ok (.istore_n 3, 1) := by decide +kernel
theorem dX4_set_44 : decode cX4_set 44 = .ok (.aload_n 0, 1) := by decide +kernel
theorem dX4_set_45 : decode cX4_set 45 = .ok (.getfield 19, 3) := by decide +kernel
theorem dX4_set_48 : decode cX4_set 48 = .ok (.getfield 118, 3) := by decide +kernel
theorem dX4_set_51 : decode cX4_set 51 = .ok (.iload_n 1, 1) := by decide +kernel
theorem dX4_set_52 : decode cX4_set 52 = .ok (.iload_n 2, 1) := by decide +kernel
theorem dX4_set_53 : decode cX4_set 53 = .ok (.iastore, 1) := by decide +kernel
theorem dX4_set_54 : decode cX4_set 54 = .ok (.iload_n 3, 1) := by decide +kernel
theorem dX4_set_55 : decode cX4_set 55 = .ok (.ireturn, 1) := by decide +kernel
set_option maxRecDepth 20000 in
theorem ggX4_rowOf_X0_hasRow : GoodIn wsX4_rowOf wsX0_hasRow := goodIn_r _ [12, 13, 102, 103, 104, 105, 106, 107, 108, 109, 110, 111, 112] (by decide +kernel) (by decide +kernel)
set_option maxRecDepth 20000 in
theorem gX4_rowOf_X0_hasRow : GoodIn wsX4_rowOf (wsV RX4 53 RX0 yX0_hasRow wsX0_hasRow) := goodIn_app (goodIn_of _ (by decide +kernel)) ggX4_rowOf_X0_hasRow
set_option maxRecDepth 20000 in
theorem ggX4_rowOf_X2_width : GoodIn wsX4_rowOf wsX2_width := goodIn_r _ [18, 19, 20, 21, 22, 23, 113, 114, 115, 116] (by decide +kernel) (by decide +kernel)
set_option maxRecDepth 20000 in
theorem gX4_rowOf_X2_width : GoodIn wsX4_rowOf (wsV RX4 122 RX2 yX2_width wsX2_width) := goodIn_app (goodIn_of _ (by decide +kernel)) ggX4_rowOf_X2_width
set_option maxRecDepth 20000 in
theorem ggX4_rowOf_X0_squeezed : GoodIn wsX4_rowOf wsX0_squeezed := goodIn_r _ [27, 28, 102, 103, 104, 105, 106, 107, 108, 109, 110, 111, 112] (by decide +kernel) (by decide +kernel)
set_option maxRecDepth 20000 in
theorem gX4_rowOf_X0_squeezed : GoodIn wsX4_rowOf (wsV RX4 125 RX0 yX0_squeezed wsX0_squeezed) := goodIn_app (goodIn_of _ (by decide +kernel)) ggX4_rowOf_X0_squeezed
set_option maxRecDepth 20000 in
theorem ggX4_rowOf_X2_kind : GoodIn wsX4_rowOf wsX2_kind := goodIn_r _ [32, 19, 33, 34, 35, 17, 36, 20, 37, 38, 39, 40, 41, 42, 43, 44, 45, 46, 47, 48, 49, 50, 51, 52, 53, 54, 55, 56, 57, 58, 59, 60, 61, 62, 63, 64, 65, 66, 67, 68, 69, 70, 71, 72, 73, 74, 75, 76, 77, 78, 79, 80, 81, 82, 83, 84, 85, 113, 114, 115, 116] (by decide +kernel) (by decide +kernel)
set_option maxRecDepth 20000 in
theorem gX4_rowOf_X2_kind : GoodIn wsX4_rowOf (wsV RX4 128 RX2 yX2_kind wsX2_kind) := goodIn_app (goodIn_of _ (by decide +kernel)) ggX4_rowOf_X2_kind
set_option maxRecDepth 20000 in
theorem ggX4_rowOf_X0_routesOf : GoodIn wsX4_rowOf wsX0_routesOf := goodIn_r _ [89, 90, 91, 92, 93, 94, 95, 96, 97, 102, 103, 104, 105, 106, 107, 108, 109, 110, 111, 112, 117, 118, 119] (by decide +kernel) (by decide +kernel)
set_option maxRecDepth 20000 in
theorem gX4_rowOf_X0_routesOf : GoodIn wsX4_rowOf (wsV RX4 131 RX0 yX0_routesOf wsX0_routesOf) := goodIn_app (goodIn_of _ (by decide +kernel)) ggX4_rowOf_X0_routesOf
theorem dX4_rowOf_0 : decode cX4_rowOf 0 = .ok (.aload_n 0, 1) := by decide +kernel
theorem dX4_rowOf_1 : decode cX4_rowOf 1 = .ok (.getfield 19, 3) := by decide +kernel
theorem dX4_rowOf_4 : decode cX4_rowOf 4 = .ok (.iload_n 1, 1) := by decide +kernel
theorem dX4_rowOf_5 : decode cX4_rowOf 5 = .ok (.invokevirtual 53, 3) := by decide +kernel
theorem dX4_rowOf_8 : decode cX4_rowOf 8 = .ok (.ifCond .ne 6, 3) := by decide +kernel
theorem dX4_rowOf_11 : decode cX4_rowOf 11 = .ok (.ldc 57, 2) := by decide +kernel
theorem dX4_rowOf_13 : decode cX4_rowOf 13 = .ok (.ireturn, 1) := by decide +kernel
theorem dX4_rowOf_14 : decode cX4_rowOf 14 = .ok (.aload_n 0, 1) := by decide +kernel
theorem dX4_rowOf_15 : decode cX4_rowOf 15 = .ok (.getfield 19, 3) := by decide +kernel
theorem dX4_rowOf_18 : decode cX4_rowOf 18 = .ok (.getfield 72, 3) := by decide +kernel
theorem dX4_rowOf_21 : decode cX4_rowOf 21 = .ok (.iload_n 1, 1) := by decide +kernel
theorem dX4_rowOf_22 : decode cX4_rowOf 22 = .ok (.aaload, 1) := by decide +kernel
theorem dX4_rowOf_23 : decode cX4_rowOf 23 = .ok (.astore_n 3, 1) := by decide +kernel
theorem dX4_rowOf_24 : decode cX4_rowOf 24 = .ok (.iload_n 2, 1) := by decide +kernel
theorem dX4_rowOf_25 : decode cX4_rowOf 25 = .ok (.tableswitch 118 0 7 #[47, 52, 57, 69, 74, 79, 92, 101], 47) := by decide +kernel
theorem dX4_rowOf_72 : decode cX4_rowOf 72 = .ok (.aload_n 3, 1) := by decide +kernel
theorem dX4_rowOf_73 : decode cX4_rowOf 73 = .ok (.getfield 121, 3) := by decide +kernel
theorem dX4_rowOf_76 : decode cX4_rowOf 76 = .ok (.ireturn, 1) := by decide +kernel
theorem dX4_rowOf_77 : decode cX4_rowOf 77 = .ok (.aload_n 3, 1) := by decide +kernel
theorem dX4_rowOf_78 : decode cX4_rowOf 78 = .ok (.invokevirtual 122, 3) := by decide +kernel
theorem dX4_rowOf_81 : decode cX4_rowOf 81 = .ok (.ireturn, 1) := by decide +kernel
theorem dX4_rowOf_82 : decode cX4_rowOf 82 = .ok (.aload_n 0, 1) := by decide +kernel
theorem dX4_rowOf_83 : decode cX4_rowOf 83 = .ok (.getfield 19, 3) := by decide +kernel
theorem dX4_rowOf_86 : decode cX4_rowOf 86 = .ok (.aload_n 3, 1) := by decide +kernel
theorem dX4_rowOf_87 : decode cX4_rowOf 87 = .ok (.invokevirtual 122, 3) := by decide +kernel
theorem dX4_rowOf_90 : decode cX4_rowOf 90 = .ok (.invokevirtual 125, 3) := by decide +kernel
theorem dX4_rowOf_93 : decode cX4_rowOf 93 = .ok (.ireturn, 1) := by decide +kernel
theorem dX4_rowOf_94 : decode cX4_rowOf 94 = .ok (.aload_n 3, 1) := by decide +kernel
theorem dX4_rowOf_95 : decode cX4_rowOf 95 = .ok (.invokevirtual 128, 3) := by decide +kernel
theorem dX4_rowOf_98 : decode cX4_rowOf 98 = .ok (.ireturn, 1) := by decide +kernel
theorem dX4_rowOf_99 : decode cX4_rowOf 99 = .ok (.aload_n 3, 1) := by decide +kernel
theorem dX4_rowOf_100 : decode cX4_rowOf 100 = .ok (.getfield 85, 3) := by decide +kernel
theorem dX4_rowOf_103 : decode cX4_rowOf 103 = .ok (.ireturn, 1) := by decide +kernel
theorem dX4_rowOf_104 : decode cX4_rowOf 104 = .ok (.aload_n 3, 1) := by decide +kernel
theorem dX4_rowOf_105 : decode cX4_rowOf 105 = .ok (.getfield 76, 3) := by decide +kernel
theorem dX4_rowOf_108 : decode cX4_rowOf 108 = .ok (.ifCond .eq 7, 3) := by decide +kernel
theorem dX4_rowOf_111 : decode cX4_rowOf 111 = .ok (.iconst 1, 1) := by decide +kernel
theorem dX4_rowOf_112 : decode cX4_rowOf 112 = .ok (.goto 4, 3) := by decide +kernel
theorem dX4_rowOf_115 : decode cX4_rowOf 115 = .ok (.iconst 0, 1) := by decide +kernel
theorem dX4_rowOf_116 : decode cX4_rowOf 116 = .ok (.ireturn, 1) := by decide +kernel
theorem dX4_rowOf_117 : decode cX4_rowOf 117 = .ok (.aload_n 0, 1) := by decide +kernel
theorem dX4_rowOf_118 : decode cX4_rowOf 118 = .ok (.getfield 19, 3) := by decide +kernel
theorem dX4_rowOf_121 : decode cX4_rowOf 121 = .ok (.iload_n 1, 1) := by decide +kernel
theorem dX4_rowOf_122 : decode cX4_rowOf 122 = .ok (.invokevirtual 131, 3) := by decide +kernel
theorem dX4_rowOf_125 : decode cX4_rowOf 125 = .ok (.ireturn, 1) := by decide +kernel
theorem dX4_rowOf_126 : decode cX4_rowOf 126 = .ok (.iload_n 1, 1) := by decide +kernel
theorem dX4_rowOf_127 : decode cX4_rowOf 127 = .ok (.aload_n 0, 1) := by decide +kernel
theorem dX4_rowOf_128 : decode cX4_rowOf 128 = .ok (.getfield 19, 3) := by decide +kernel
theorem dX4_rowOf_131 : decode cX4_rowOf 131 = .ok (.getfield 65, 3) := by decide +kernel
theorem dX4_rowOf_134 : decode cX4_rowOf 134 = .ok (.if_icmp .ne 7, 3) := by decide +kernel
theorem dX4_rowOf_137 : decode cX4_rowOf 137 = .ok (.iconst 1, 1) := by decide +kernel
theorem dX4_rowOf_138 : decode cX4_rowOf 138 = .ok (.goto 4, 3) := by decide +kernel
theorem dX4_rowOf_141 : decode cX4_rowOf 141 = .ok (.iconst 0, 1) := by decide +kernel
theorem dX4_rowOf_142 : decode cX4_rowOf 142 = .ok (.ireturn, 1) := by decide +kernel
theorem dX4_rowOf_143 : decode cX4_rowOf 143 = .ok (.ldc 57, 2) := by decide +kernel
theorem dX4_rowOf_145 : decode cX4_rowOf 145 = .ok (.ireturn, 1) := by decide +kernel
set_option maxRecDepth 20000 in
theorem ggX4_letter_X0_hasRow : GoodIn wsX4_letter wsX0_hasRow := goodIn_r _ [11, 12, 17, 18, 19, 20, 21, 22, 23, 24, 25, 26, 27] (by decide +kernel) (by decide +kernel)
set_option maxRecDepth 20000 in
theorem gX4_letter_X0_hasRow : GoodIn wsX4_letter (wsV RX4 53 RX0 yX0_hasRow wsX0_hasRow) := goodIn_app (goodIn_of _ (by decide +kernel)) ggX4_letter_X0_hasRow
theorem dX4_letter_0 : decode cX4_letter 0 = .ok (.aload_n 0, 1) := by decide +kernel
theorem dX4_letter_1 : decode cX4_letter 1 = .ok (.getfield 19, 3) := by decide +kernel
theorem dX4_letter_4 : decode cX4_letter 4 = .ok (.iload_n 1, 1) := by decide +kernel
theorem dX4_letter_5 : decode cX4_letter 5 = .ok (.invokevirtual 53, 3) := by decide +kernel
theorem dX4_letter_8 : decode cX4_letter 8 = .ok (.ifCond .eq 7, 3) := by decide +kernel
theorem dX4_letter_11 : decode cX4_letter 11 = .ok (.iload_n 2, 1) := by decide +kernel
theorem dX4_letter_12 : decode cX4_letter 12 = .ok (.ifCond .ge 6, 3) := by decide +kernel
theorem dX4_letter_15 : decode cX4_letter 15 = .ok (.ldc 57, 2) := by decide +kernel
theorem dX4_letter_17 : decode cX4_letter 17 = .ok (.ireturn, 1) := by decide +kernel
theorem dX4_letter_18 : decode cX4_letter 18 = .ok (.aload_n 0, 1) := by decide +kernel
theorem dX4_letter_19 : decode cX4_letter 19 = .ok (.getfield 19, 3) := by decide +kernel
theorem dX4_letter_22 : decode cX4_letter 22 = .ok (.getfield 72, 3) := by decide +kernel
theorem dX4_letter_25 : decode cX4_letter 25 = .ok (.iload_n 1, 1) := by decide +kernel
theorem dX4_letter_26 : decode cX4_letter 26 = .ok (.aaload, 1) := by decide +kernel
theorem dX4_letter_27 : decode cX4_letter 27 = .ok (.astore_n 3, 1) := by decide +kernel
theorem dX4_letter_28 : decode cX4_letter 28 = .ok (.iload_n 2, 1) := by decide +kernel
theorem dX4_letter_29 : decode cX4_letter 29 = .ok (.aload_n 3, 1) := by decide +kernel
theorem dX4_letter_30 : decode cX4_letter 30 = .ok (.getfield 121, 3) := by decide +kernel
theorem dX4_letter_33 : decode cX4_letter 33 = .ok (.if_icmp .ge 12, 3) := by decide +kernel
theorem dX4_letter_36 : decode cX4_letter 36 = .ok (.aload_n 3, 1) := by decide +kernel
theorem dX4_letter_37 : decode cX4_letter 37 = .ok (.getfield 134, 3) := by decide +kernel
theorem dX4_letter_40 : decode cX4_letter 40 = .ok (.iload_n 2, 1) := by decide +kernel
theorem dX4_letter_41 : decode cX4_letter 41 = .ok (.caload, 1) := by decide +kernel
theorem dX4_letter_42 : decode cX4_letter 42 = .ok (.goto 5, 3) := by decide +kernel
theorem dX4_letter_45 : decode cX4_letter 45 = .ok (.ldc 138, 2) := by decide +kernel
theorem dX4_letter_47 : decode cX4_letter 47 = .ok (.ireturn, 1) := by decide +kernel
set_option maxRecDepth 20000 in
theorem ggX4_routeOf_X0_hasRoute : GoodIn wsX4_routeOf wsX0_hasRoute := goodIn_r _ [11, 12, 31, 32, 33, 34, 35, 36, 37, 38, 39, 40, 41] (by decide +kernel) (by decide +kernel)
set_option maxRecDepth 20000 in
theorem gX4_routeOf_X0_hasRoute : GoodIn wsX4_routeOf (wsV RX4 102 RX0 yX0_hasRoute wsX0_hasRoute) := goodIn_app (goodIn_of _ (by decide +kernel)) ggX4_routeOf_X0_hasRoute
set_option maxRecDepth 20000 in
theorem ggX4_routeOf_J6_bitCount_0f7a4 : GoodIn wsX4_routeOf wsJ6_bitCount_0f7a4 := goodIn_r _ [16, 17, 18, 19] (by decide +kernel) (by decide +kernel)
set_option maxRecDepth 20000 in
theorem gX4_routeOf_J6_bitCount_0f7a4 : GoodIn wsX4_routeOf (va_wsS RX4 147 yJ6_bitCount_0f7a4 wsJ6_bitCount_0f7a4) := goodIn_app (goodIn_of _ (by decide +kernel)) ggX4_routeOf_J6_bitCount_0f7a4
set_option maxRecDepth 20000 in
theorem ggX4_routeOf_X0_tornRows : GoodIn wsX4_routeOf wsX0_tornRows := goodIn_r _ [23, 24, 25, 26, 31, 32, 33, 34, 35, 36, 37, 38, 39, 40, 41, 45, 46, 47, 48] (by decide +kernel) (by decide +kernel)
set_option maxRecDepth 20000 in
theorem gX4_routeOf_X0_tornRows : GoodIn wsX4_routeOf (wsV RX4 152 RX0 yX0_tornRows wsX0_tornRows) := goodIn_app (goodIn_of _ (by decide +kernel)) ggX4_routeOf_X0_tornRows
theorem dX4_routeOf_0 : decode cX4_routeOf 0 = .ok (.aload_n 0, 1) := by decide +kernel
theorem dX4_routeOf_1 : decode cX4_routeOf 1 = .ok (.getfield 19, 3) := by decide +kernel
theorem dX4_routeOf_4 : decode cX4_routeOf 4 = .ok (.iload_n 1, 1) := by decide +kernel
theorem dX4_routeOf_5 : decode cX4_routeOf 5 = .ok (.invokevirtual 102, 3) := by decide +kernel
theorem dX4_routeOf_8 : decode cX4_routeOf 8 = .ok (.ifCond .ne 6, 3) := by decide +kernel
theorem dX4_routeOf_11 : decode cX4_routeOf 11 = .ok (.ldc 57, 2) := by decide +kernel
theorem dX4_routeOf_13 : decode cX4_routeOf 13 = .ok (.ireturn, 1) := by decide +kernel
theorem dX4_routeOf_14 : decode cX4_routeOf 14 = .ok (.aload_n 0, 1) := by decide +kernel
theorem dX4_routeOf_15 : decode cX4_routeOf 15 = .ok (.getfield 19, 3) := by decide +kernel
theorem dX4_routeOf_18 : decode cX4_routeOf 18 = .ok (.getfield 139, 3) := by decide +kernel
theorem dX4_routeOf_21 : decode cX4_routeOf 21 = .ok (.iload_n 1, 1) := by decide +kernel
theorem dX4_routeOf_22 : decode cX4_routeOf 22 = .ok (.aaload, 1) := by decide +kernel
theorem dX4_routeOf_23 : decode cX4_routeOf 23 = .ok (.astore_n 3, 1) := by decide +kernel
theorem dX4_routeOf_24 : decode cX4_routeOf 24 = .ok (.iload_n 2, 1) := by decide +kernel
theorem dX4_routeOf_25 : decode cX4_routeOf 25 = .ok (.tableswitch 71 0 4 #[35, 40, 48, 61, 66], 35) := by decide +kernel
theorem dX4_routeOf_60 : decode cX4_routeOf 60 = .ok (.aload_n 3, 1) := by decide +kernel
theorem dX4_routeOf_61 : decode cX4_routeOf 61 = .ok (.getfield 143, 3) := by decide +kernel
theorem dX4_routeOf_64 : decode cX4_routeOf 64 = .ok (.ireturn, 1) := by decide +kernel
theorem dX4_routeOf_65 : decode cX4_routeOf 65 = .ok (.aload_n 3, 1) := by decide +kernel
theorem dX4_routeOf_66 : decode cX4_routeOf 66 = .ok (.getfield 143, 3) := by decide +kernel
theorem dX4_routeOf_69 : decode cX4_routeOf 69 = .ok (.invokestatic 147, 3) := by decide +kernel
theorem dX4_routeOf_72 : decode cX4_routeOf 72 = .ok (.ireturn, 1) := by decide +kernel
theorem dX4_routeOf_73 : decode cX4_routeOf 73 = .ok (.aload_n 3, 1) := by decide +kernel
theorem dX4_routeOf_74 : decode cX4_routeOf 74 = .ok (.getfield 143, 3) := by decide +kernel
theorem dX4_routeOf_77 : decode cX4_routeOf 77 = .ok (.aload_n 0, 1) := by decide +kernel
theorem dX4_routeOf_78 : decode cX4_routeOf 78 = .ok (.getfield 19, 3) := by decide +kernel
theorem dX4_routeOf_81 : decode cX4_routeOf 81 = .ok (.invokevirtual 152, 3) := by decide +kernel
theorem dX4_routeOf_84 : decode cX4_routeOf 84 = .ok (.iand, 1) := by decide +kernel
theorem dX4_routeOf_85 : decode cX4_routeOf 85 = .ok (.ireturn, 1) := by decide +kernel
theorem dX4_routeOf_86 : decode cX4_routeOf 86 = .ok (.aload_n 3, 1) := by decide +kernel
theorem dX4_routeOf_87 : decode cX4_routeOf 87 = .ok (.getfield 155, 3) := by decide +kernel
theorem dX4_routeOf_90 : decode cX4_routeOf 90 = .ok (.ireturn, 1) := by decide +kernel
theorem dX4_routeOf_91 : decode cX4_routeOf 91 = .ok (.aload_n 3, 1) := by decide +kernel
theorem dX4_routeOf_92 : decode cX4_routeOf 92 = .ok (.getfield 158, 3) := by decide +kernel
theorem dX4_routeOf_95 : decode cX4_routeOf 95 = .ok (.ireturn, 1) := by decide +kernel
theorem dX4_routeOf_96 : decode cX4_routeOf 96 = .ok (.ldc 57, 2) := by decide +kernel
theorem dX4_routeOf_98 : decode cX4_routeOf 98 = .ok (.ireturn, 1) := by decide +kernel
set_option maxRecDepth 20000 in
theorem ggX4_find_X3_isNameOf : GoodIn wsX4_find wsX3_isNameOf := goodIn_r _ [10, 11, 12, 13, 14, 30, 31, 32, 33, 34, 35] (by decide +kernel) (by decide +kernel)
set_option maxRecDepth 20000 in
theorem gX4_find_X3_isNameOf : GoodIn wsX4_find (wsV RX4 185 RX3 yX3_isNameOf wsX3_isNameOf) := goodIn_app (goodIn_of _ (by decide +kernel)) ggX4_find_X3_isNameOf
theorem dX4_find_0 : decode cX4_find 0 = .ok (.iconst 0, 1) := by decide +kernel
theorem dX4_find_1 : decode cX4_find 1 = .ok (.istore_n 1, 1) := by decide +kernel
theorem dX4_find_2 : decode cX4_find 2 = .ok (.iload_n 1, 1) := by decide +kernel
theorem dX4_find_3 : decode cX4_find 3 = .ok (.aload_n 0, 1) := by decide +kernel
theorem dX4_find_4 : decode cX4_find 4 = .ok (.getfield 19, 3) := by decide +kernel
theorem dX4_find_7 : decode cX4_find 7 = .ok (.getfield 62, 3) := by decide +kernel
theorem dX4_find_10 : decode cX4_find 10 = .ok (.if_icmp .ge 30, 3) := by decide +kernel
theorem dX4_find_13 : decode cX4_find 13 = .ok (.aload_n 0, 1) := by decide +kernel
theorem dX4_find_14 : decode cX4_find 14 = .ok (.getfield 10, 3) := by decide +kernel
theorem dX4_find_17 : decode cX4_find 17 = .ok (.aload_n 0, 1) := by decide +kernel
theorem dX4_find_18 : decode cX4_find 18 = .ok (.getfield 19, 3) := by decide +kernel
theorem dX4_find_21 : decode cX4_find 21 = .ok (.getfield 72, 3) := by decide +kernel
theorem dX4_find_24 : decode cX4_find 24 = .ok (.iload_n 1, 1) := by decide +kernel
theorem dX4_find_25 : decode cX4_find 25 = .ok (.aaload, 1) := by decide +kernel
theorem dX4_find_26 : decode cX4_find 26 = .ok (.invokevirtual 185, 3) := by decide +kernel
theorem dX4_find_29 : decode cX4_find 29 = .ok (.ifCond .eq 5, 3) := by decide +kernel
theorem dX4_find_32 : decode cX4_find 32 = .ok (.iload_n 1, 1) := by decide +kernel
theorem dX4_find_33 : decode cX4_find 33 = .ok (.ireturn, 1) := by decide +kernel
theorem dX4_find_34 : decode cX4_find 34 = .ok (.iinc 1 1, 3) := by decide +kernel
theorem dX4_find_37 : decode cX4_find 37 = .ok (.goto (-35), 3) := by decide +kernel
theorem dX4_find_40 : decode cX4_find 40 = .ok (.ldc 138, 2) := by decide +kernel
theorem dX4_find_42 : decode cX4_find 42 = .ok (.ireturn, 1) := by decide +kernel
set_option maxRecDepth 20000 in
theorem ggX4_count_X0_tornRows : GoodIn wsX4_count wsX0_tornRows := goodIn_r _ [20, 21, 22, 23, 125, 126, 127, 128, 129, 130, 131, 132, 133, 134, 135, 138, 139, 140, 141] (by decide +kernel) (by decide +kernel)
set_option maxRecDepth 20000 in
theorem gX4_count_X0_tornRows : GoodIn wsX4_count (wsV RX4 152 RX0 yX0_tornRows wsX0_tornRows) := goodIn_app (goodIn_of _ (by decide +kernel)) ggX4_count_X0_tornRows
set_option maxRecDepth 20000 in
theorem ggX4_count_X0_wrongOf : GoodIn wsX4_count wsX0_wrongOf := goodIn_r _ [27, 22, 23, 28, 29, 30, 31, 32, 19, 33, 21, 34, 35, 36, 37, 38, 39, 40, 41, 42, 43, 44, 45, 46, 47, 48, 49, 50, 51, 52, 53, 54, 55, 56, 57, 58, 59, 60, 61, 62, 63, 64, 65, 66, 67, 68, 69, 70, 71, 72, 73, 74, 75, 76, 77, 78, 79, 80, 81, 82, 83, 84, 85, 86, 87, 88, 89, 90, 91, 92, 93, 94, 95, 96, 97, 98, 99, 100, 101, 102, 103, 104, 105, 106, 107, 108, 109, 110, 111, 112, 113, 114, 115, 116, 125, 126, 127, 128, 129, 130, 131, 132, 133, 134, 135, 138, 139, 140, 141, 142, 143, 144] (by decide +kernel) (by decide +kernel)
set_option maxRecDepth 20000 in
theorem gX4_count_X0_wrongOf : GoodIn wsX4_count (wsV RX4 204 RX0 yX0_wrongOf wsX0_wrongOf) := goodIn_app (goodIn_of _ (by decide +kernel)) ggX4_count_X0_wrongOf
set_option maxRecDepth 20000 in
theorem ggX4_count_X0_widest : GoodIn wsX4_count wsX0_widest := goodIn_r _ [120, 21, 22, 105, 106, 107, 37, 108, 39, 44, 109, 110, 111, 125, 126, 127, 128, 129, 130, 131, 132, 133, 134, 135, 138, 139, 140, 141] (by decide +kernel) (by decide +kernel)
set_option maxRecDepth 20000 in
theorem gX4_count_X0_widest : GoodIn wsX4_count (wsV RX4 207 RX0 yX0_widest wsX0_widest) := goodIn_app (goodIn_of _ (by decide +kernel)) ggX4_count_X0_widest
theorem dX4_count_0 : decode cX4_count 0 = .ok (.iload_n 1, 1) := by decide +kernel
theorem dX4_count_1 : decode cX4_count 1 = .ok (.tableswitch 291 0 22 #[107, 115, 138, 146, 170, 178, 186, 194, 202, 210, 225, 248, 253, 291, 291, 291, 291, 291, 291, 291, 261, 271, 281], 107) := by decide +kernel
theorem dX4_count_108 : decode cX4_count 108 = .ok (.aload_n 0, 1) := by decide +kernel
theorem dX4_count_109 : decode cX4_count 109 = .ok (.getfield 19, 3) := by decide +kernel
theorem dX4_count_112 : decode cX4_count 112 = .ok (.getfield 62, 3) := by decide +kernel
theorem dX4_count_115 : decode cX4_count 115 = .ok (.ireturn, 1) := by decide +kernel
theorem dX4_count_116 : decode cX4_count 116 = .ok (.aload_n 0, 1) := by decide +kernel
theorem dX4_count_117 : decode cX4_count 117 = .ok (.getfield 19, 3) := by decide +kernel
theorem dX4_count_120 : decode cX4_count 120 = .ok (.getfield 62, 3) := by decide +kernel
theorem dX4_count_123 : decode cX4_count 123 = .ok (.ifCond .ne 8, 3) := by decide +kernel
theorem dX4_count_126 : decode cX4_count 126 = .ok (.ldc 138, 2) := by decide +kernel
theorem dX4_count_128 : decode cX4_count 128 = .ok (.goto 10, 3) := by decide +kernel
theorem dX4_count_131 : decode cX4_count 131 = .ok (.aload_n 0, 1) := by decide +kernel
theorem dX4_count_132 : decode cX4_count 132 = .ok (.getfield 19, 3) := by decide +kernel
theorem dX4_count_135 : decode cX4_count 135 = .ok (.getfield 65, 3) := by decide +kernel
theorem dX4_count_138 : decode cX4_count 138 = .ok (.ireturn, 1) := by decide +kernel
theorem dX4_count_139 : decode cX4_count 139 = .ok (.aload_n 0, 1) := by decide +kernel
theorem dX4_count_140 : decode cX4_count 140 = .ok (.getfield 19, 3) := by decide +kernel
theorem dX4_count_143 : decode cX4_count 143 = .ok (.getfield 95, 3) := by decide +kernel
theorem dX4_count_146 : decode cX4_count 146 = .ok (.ireturn, 1) := by decide +kernel
theorem dX4_count_147 : decode cX4_count 147 = .ok (.aload_n 0, 1) := by decide +kernel
theorem dX4_count_148 : decode cX4_count 148 = .ok (.getfield 19, 3) := by decide +kernel
theorem dX4_count_151 : decode cX4_count 151 = .ok (.getfield 105, 3) := by decide +kernel
theorem dX4_count_154 : decode cX4_count 154 = .ok (.iconst (-1), 1) := by decide +kernel
theorem dX4_count_155 : decode cX4_count 155 = .ok (.if_icmp .ne 8, 3) := by decide +kernel
theorem dX4_count_158 : decode cX4_count 158 = .ok (.ldc 138, 2) := by decide +kernel
theorem dX4_count_160 : decode cX4_count 160 = .ok (.goto 10, 3) := by decide +kernel
theorem dX4_count_163 : decode cX4_count 163 = .ok (.aload_n 0, 1) := by decide +kernel
theorem dX4_count_164 : decode cX4_count 164 = .ok (.getfield 19, 3) := by decide +kernel
theorem dX4_count_167 : decode cX4_count 167 = .ok (.getfield 105, 3) := by decide +kernel
theorem dX4_count_170 : decode cX4_count 170 = .ok (.ireturn, 1) := by decide +kernel
theorem dX4_count_171 : decode cX4_count 171 = .ok (.aload_n 0, 1) := by decide +kernel
theorem dX4_count_172 : decode cX4_count 172 = .ok (.getfield 19, 3) := by decide +kernel
theorem dX4_count_175 : decode cX4_count 175 = .ok (.invokevirtual 152, 3) := by decide +kernel
theorem dX4_count_178 : decode cX4_count 178 = .ok (.ireturn, 1) := by decide +kernel
theorem dX4_count_179 : decode cX4_count 179 = .ok (.aload_n 0, 1) := by decide +kernel
theorem dX4_count_180 : decode cX4_count 180 = .ok (.getfield 19, 3) := by decide +kernel
theorem dX4_count_183 : decode cX4_count 183 = .ok (.getfield 196, 3) := by decide +kernel
theorem dX4_count_186 : decode cX4_count 186 = .ok (.ireturn, 1) := by decide +kernel
theorem dX4_count_187 : decode cX4_count 187 = .ok (.aload_n 0, 1) := by decide +kernel
theorem dX4_count_188 : decode cX4_count 188 = .ok (.getfield 19, 3) := by decide +kernel
theorem dX4_count_191 : decode cX4_count 191 = .ok (.getfield 199, 3) := by decide +kernel
theorem dX4_count_194 : decode cX4_count 194 = .ok (.ireturn, 1) := by decide +kernel
theorem dX4_count_195 : decode cX4_count 195 = .ok (.aload_n 0, 1) := by decide +kernel
theorem dX4_count_196 : decode cX4_count 196 = .ok (.getfield 19, 3) := by decide +kernel
theorem dX4_count_199 : decode cX4_count 199 = .ok (.getfield 202, 3) := by decide +kernel
theorem dX4_count_202 : decode cX4_count 202 = .ok (.ireturn, 1) := by decide +kernel
theorem dX4_count_203 : decode cX4_count 203 = .ok (.aload_n 0, 1) := by decide +kernel
theorem dX4_count_204 : decode cX4_count 204 = .ok (.getfield 19, 3) := by decide +kernel
theorem dX4_count_207 : decode cX4_count 207 = .ok (.getfield 203, 3) := by decide +kernel
theorem dX4_count_210 : decode cX4_count 210 = .ok (.ireturn, 1) := by decide +kernel
theorem dX4_count_211 : decode cX4_count 211 = .ok (.aload_n 0, 1) := by decide +kernel
theorem dX4_count_212 : decode cX4_count 212 = .ok (.getfield 19, 3) := by decide +kernel
theorem dX4_count_215 : decode cX4_count 215 = .ok (.aload_n 0, 1) := by decide +kernel
theorem dX4_count_216 : decode cX4_count 216 = .ok (.getfield 19, 3) := by decide +kernel
theorem dX4_count_219 : decode cX4_count 219 = .ok (.getfield 65, 3) := by decide +kernel
theorem dX4_count_222 : decode cX4_count 222 = .ok (.invokevirtual 204, 3) := by decide +kernel
theorem dX4_count_225 : decode cX4_count 225 = .ok (.ireturn, 1) := by decide +kernel
theorem dX4_count_226 : decode cX4_count 226 = .ok (.aload_n 0, 1) := by decide +kernel
theorem dX4_count_227 : decode cX4_count 227 = .ok (.getfield 19, 3) := by decide +kernel
theorem dX4_count_230 : decode cX4_count 230 = .ok (.getfield 62, 3) := by decide +kernel
theorem dX4_count_233 : decode cX4_count 233 = .ok (.ifCond .ne 8, 3) := by decide +kernel
theorem dX4_count_236 : decode cX4_count 236 = .ok (.ldc 138, 2) := by decide +kernel
theorem dX4_count_238 : decode cX4_count 238 = .ok (.goto 10, 3) := by decide +kernel
theorem dX4_count_241 : decode cX4_count 241 = .ok (.aload_n 0, 1) := by decide +kernel
theorem dX4_count_242 : decode cX4_count 242 = .ok (.getfield 19, 3) := by decide +kernel
theorem dX4_count_245 : decode cX4_count 245 = .ok (.invokevirtual 207, 3) := by decide +kernel
theorem dX4_count_248 : decode cX4_count 248 = .ok (.ireturn, 1) := by decide +kernel
theorem dX4_count_249 : decode cX4_count 249 = .ok (.aload_n 0, 1) := by decide +kernel
theorem dX4_count_250 : decode cX4_count 250 = .ok (.getfield 27, 3) := by decide +kernel
theorem dX4_count_253 : decode cX4_count 253 = .ok (.ireturn, 1) := by decide +kernel
theorem dX4_count_254 : decode cX4_count 254 = .ok (.aload_n 0, 1) := by decide +kernel
theorem dX4_count_255 : decode cX4_count 255 = .ok (.getfield 10, 3) := by decide +kernel
theorem dX4_count_258 : decode cX4_count 258 = .ok (.getfield 39, 3) := by decide +kernel
theorem dX4_count_261 : decode cX4_count 261 = .ok (.ireturn, 1) := by decide +kernel
theorem dX4_count_262 : decode cX4_count 262 = .ok (.aload_n 0, 1) := by decide +kernel
theorem dX4_count_263 : decode cX4_count 263 = .ok (.getfield 19, 3) := by decide +kernel
theorem dX4_count_266 : decode cX4_count 266 = .ok (.getfield 118, 3) := by decide +kernel
theorem dX4_count_269 : decode cX4_count 269 = .ok (.iconst 0, 1) := by decide +kernel
theorem dX4_count_270 : decode cX4_count 270 = .ok (.iaload, 1) := by decide +kernel
theorem dX4_count_271 : decode cX4_count 271 = .ok (.ireturn, 1) := by decide +kernel
theorem dX4_count_272 : decode cX4_count 272 = .ok (.aload_n 0, 1) := by decide +kernel
theorem dX4_count_273 : decode cX4_count 273 = .ok (.getfield 19, 3) := by decide +kernel
theorem dX4_count_276 : decode cX4_count 276 = .ok (.getfield 118, 3) := by decide +kernel
theorem dX4_count_279 : decode cX4_count 279 = .ok (.iconst 1, 1) := by decide +kernel
theorem dX4_count_280 : decode cX4_count 280 = .ok (.iaload, 1) := by decide +kernel
theorem dX4_count_281 : decode cX4_count 281 = .ok (.ireturn, 1) := by decide +kernel
theorem dX4_count_282 : decode cX4_count 282 = .ok (.aload_n 0, 1) := by decide +kernel
theorem dX4_count_283 : decode cX4_count 283 = .ok (.getfield 19, 3) := by decide +kernel
theorem dX4_count_286 : decode cX4_count 286 = .ok (.getfield 118, 3) := by decide +kernel
theorem dX4_count_289 : decode cX4_count 289 = .ok (.iconst 2, 1) := by decide +kernel
theorem dX4_count_290 : decode cX4_count 290 = .ok (.iaload, 1) := by decide +kernel
theorem dX4_count_291 : decode cX4_count 291 = .ok (.ireturn, 1) := by decide +kernel
theorem dX4_count_292 : decode cX4_count 292 = .ok (.ldc 57, 2) := by decide +kernel
theorem dX4_count_294 : decode cX4_count 294 = .ok (.ireturn, 1) := by decide +kernel
set_option maxRecDepth 20000 in
theorem ggX4_type_X3_append : GoodIn wsX4_type wsX3_append := goodIn_r _ [9, 10, 11, 16, 17] (by decide +kernel) (by decide +kernel)
set_option maxRecDepth 20000 in
theorem gX4_type_X3_append : GoodIn wsX4_type (wsV RX4 214 RX3 yX3_append wsX3_append) := goodIn_app (goodIn_of _ (by decide +kernel)) ggX4_type_X3_append
theorem dX4_type_0 : decode cX4_type 0 = .ok (.iload_n 1, 1) := by decide +kernel
theorem dX4_type_1 : decode cX4_type 1 = .ok (.bipush 32, 2) := by decide +kernel
theorem dX4_type_3 : decode cX4_type 3 = .ok (.if_icmp .lt 9, 3) := by decide +kernel
theorem dX4_type_6 : decode cX4_type 6 = .ok (.iload_n 1, 1) := by decide +kernel
theorem dX4_type_7 : decode cX4_type 7 = .ok (.bipush 126, 2) := by decide +kernel
theorem dX4_type_9 : decode cX4_type 9 = .ok (.if_icmp .le 6, 3) := by decide +kernel
theorem dX4_type_12 : decode cX4_type 12 = .ok (.ldc 57, 2) := by decide +kernel
theorem dX4_type_14 : decode cX4_type 14 = .ok (.ireturn, 1) := by decide +kernel
theorem dX4_type_15 : decode cX4_type 15 = .ok (.aload_n 0, 1) := by decide +kernel
theorem dX4_type_16 : decode cX4_type 16 = .ok (.getfield 10, 3) := by decide +kernel
theorem dX4_type_19 : decode cX4_type 19 = .ok (.getfield 39, 3) := by decide +kernel
theorem dX4_type_22 : decode cX4_type 22 = .ok (.bipush 60, 2) := by decide +kernel
theorem dX4_type_24 : decode cX4_type 24 = .ok (.if_icmp .lt 6, 3) := by decide +kernel
theorem dX4_type_27 : decode cX4_type 27 = .ok (.ldc 98, 2) := by decide +kernel
theorem dX4_type_29 : decode cX4_type 29 = .ok (.ireturn, 1) := by decide +kernel
theorem dX4_type_30 : decode cX4_type 30 = .ok (.aload_n 0, 1) := by decide +kernel
theorem dX4_type_31 : decode cX4_type 31 = .ok (.getfield 10, 3) := by decide +kernel
theorem dX4_type_34 : decode cX4_type 34 = .ok (.iload_n 1, 1) := by decide +kernel
theorem dX4_type_35 : decode cX4_type 35 = .ok (.i2c, 1) := by decide +kernel
theorem dX4_type_36 : decode cX4_type 36 = .ok (.invokevirtual 214, 3) := by decide +kernel
theorem dX4_type_39 : decode cX4_type 39 = .ok (.aload_n 0, 1) := by decide +kernel
theorem dX4_type_40 : decode cX4_type 40 = .ok (.getfield 10, 3) := by decide +kernel
theorem dX4_type_43 : decode cX4_type 43 = .ok (.getfield 39, 3) := by decide +kernel
theorem dX4_type_46 : decode cX4_type 46 = .ok (.ireturn, 1) := by decide +kernel
theorem dX4_clearText_0 : decode cX4_clearText 0 = .ok (.aload_n 0, 1) := by decide +kernel
theorem dX4_clearText_1 : decode cX4_clearText 1 = .ok (.getfield 10, 3) := by decide +kernel
theorem dX4_clearText_4 : decode cX4_clearText 4 = .ok (.getfield 39, 3) := by decide +kernel
theorem dX4_clearText_7 : decode cX4_clearText 7 = .ok (.istore_n 1, 1) := by decide +kernel
theorem dX4_clearText_8 : decode cX4_clearText 8 = .ok (.aload_n 0, 1) := by decide +kernel
theorem dX4_clearText_9 : decode cX4_clearText 9 = .ok (.getfield 10, 3) := by decide +kernel
theorem dX4_clearText_12 : decode cX4_clearText 12 = .ok (.iconst 0, 1) := by decide +kernel
theorem dX4_clearText_13 : decode cX4_clearText 13 = .ok (.putfield 39, 3) := by decide +kernel
theorem dX4_clearText_16 : decode cX4_clearText 16 = .ok (.iload_n 1, 1) := by decide +kernel
theorem dX4_clearText_17 : decode cX4_clearText 17 = .ok (.ireturn, 1) := by decide +kernel
set_option maxRecDepth 20000 in
theorem ggX4_fault_X4_faultPlace : GoodIn wsX4_fault wsX4_faultPlace := goodIn_r _ [7, 8, 9, 10, 11, 12, 13, 14, 15, 16, 17, 18, 19, 6, 20, 21, 22, 23, 24, 25, 26, 27, 28, 29, 30, 31, 32, 33, 34, 35, 36, 37, 38, 39, 40, 41, 42, 43, 44, 45, 46, 51, 52, 53, 54, 55, 56, 57, 58, 59, 60, 61, 62, 63, 64, 65, 66, 67] (by decide +kernel) (by decide +kernel)
set_option maxRecDepth 20000 in
theorem gX4_fault_X4_faultPlace : GoodIn wsX4_fault (wsV RX4 31 RX4 yX4_faultPlace wsX4_faultPlace) := goodIn_app (goodIn_of _ (by decide +kernel)) ggX4_fault_X4_faultPlace
set_option maxRecDepth 20000 in
theorem ggX4_fault_X4_faultReason : GoodIn wsX4_fault wsX4_faultReason := goodIn_r _ [20, 8, 21, 22, 23, 24, 25, 13, 26, 15, 16, 27, 28, 29, 30, 31, 32, 33, 34, 35, 36, 37, 38, 39, 6, 40, 41, 42, 43, 44, 45, 46, 10, 11, 12, 14, 51, 52, 53, 54, 57, 58, 59, 60, 61, 62, 63, 64, 65, 66, 67, 55, 56] (by decide +kernel) (by decide +kernel)
set_option maxRecDepth 20000 in
theorem gX4_fault_X4_faultReason : GoodIn wsX4_fault (wsV RX4 217 RX4 yX4_faultReason wsX4_faultReason) := goodIn_app (goodIn_of _ (by decide +kernel)) ggX4_fault_X4_faultReason
set_option maxRecDepth 20000 in
theorem ggX4_fault_X4_faultCause : GoodIn wsX4_fault wsX4_faultCause := goodIn_r _ [50, 8, 21, 23, 24, 25, 13, 26, 15, 16, 17, 18, 19, 6, 20, 22, 27, 28, 29, 30, 31, 32, 33, 34, 35, 36, 37, 38, 39, 40, 41, 42, 43, 44, 45, 46, 10, 11, 12, 14, 51, 52, 53, 54, 55, 56, 57, 58, 59, 60, 61, 62, 63, 64, 65, 66, 67] (by decide +kernel) (by decide +kernel)
set_option maxRecDepth 20000 in
theorem gX4_fault_X4_faultCause : GoodIn wsX4_fault (wsV RX4 220 RX4 yX4_faultCause wsX4_faultCause) := goodIn_app (goodIn_of _ (by decide +kernel)) ggX4_fault_X4_faultCause
theorem dX4_fault_0 : decode cX4_fault 0 = .ok (.iload_n 1, 1) := by decide +kernel
theorem dX4_fault_1 : decode cX4_fault 1 = .ok (.ifCond .lt 8, 3) := by decide +kernel
theorem dX4_fault_4 : decode cX4_fault 4 = .ok (.iload_n 1, 1) := by decide +kernel
theorem dX4_fault_5 : decode cX4_fault 5 = .ok (.iconst 2, 1) := by decide +kernel
theorem dX4_fault_6 : decode cX4_fault 6 = .ok (.if_icmp .le 6, 3) := by decide +kernel
theorem dX4_fault_9 : decode cX4_fault 9 = .ok (.ldc 57, 2) := by decide +kernel
theorem dX4_fault_11 : decode cX4_fault 11 = .ok (.ireturn, 1) := by decide +kernel
theorem dX4_fault_12 : decode cX4_fault 12 = .ok (.aload_n 0, 1) := by decide +kernel
theorem dX4_fault_13 : decode cX4_fault 13 = .ok (.invokevirtual 31, 3) := by decide +kernel
theorem dX4_fault_16 : decode cX4_fault 16 = .ok (.istore_n 2, 1) := by decide +kernel
theorem dX4_fault_17 : decode cX4_fault 17 = .ok (.iload_n 2, 1) := by decide +kernel
theorem dX4_fault_18 : decode cX4_fault 18 = .ok (.iconst (-1), 1) := by decide +kernel
theorem dX4_fault_19 : decode cX4_fault 19 = .ok (.if_icmp .ne 6, 3) := by decide +kernel
theorem dX4_fault_22 : decode cX4_fault 22 = .ok (.ldc 138, 2) := by decide +kernel
theorem dX4_fault_24 : decode cX4_fault 24 = .ok (.ireturn, 1) := by decide +kernel
theorem dX4_fault_25 : decode cX4_fault 25 = .ok (.iload_n 1, 1) := by decide +kernel
theorem dX4_fault_26 : decode cX4_fault 26 = .ok (.lookupswitch 34 #[(0, 26), (1, 28)], 26) := by decide +kernel
theorem dX4_fault_52 : decode cX4_fault 52 = .ok (.iload_n 2, 1) := by decide +kernel
theorem dX4_fault_53 : decode cX4_fault 53 = .ok (.ireturn, 1) := by decide +kernel
theorem dX4_fault_54 : decode cX4_fault 54 = .ok (.aload_n 0, 1) := by decide +kernel
theorem dX4_fault_55 : decode cX4_fault 55 = .ok (.iload_n 2, 1) := by decide +kernel
theorem dX4_fault_56 : decode cX4_fault 56 = .ok (.invokevirtual 217, 3) := by decide +kernel
theorem dX4_fault_59 : decode cX4_fault 59 = .ok (.ireturn, 1) := by decide +kernel
theorem dX4_fault_60 : decode cX4_fault 60 = .ok (.aload_n 0, 1) := by decide +kernel
theorem dX4_fault_61 : decode cX4_fault 61 = .ok (.iload_n 2, 1) := by decide +kernel
theorem dX4_fault_62 : decode cX4_fault 62 = .ok (.invokevirtual 220, 3) := by decide +kernel
theorem dX4_fault_65 : decode cX4_fault 65 = .ok (.ireturn, 1) := by decide +kernel
theorem dX4_isCranking_0 : decode cX4_isCranking 0 = .ok (.iload_n 0, 1) := by decide +kernel
theorem dX4_isCranking_1 : decode cX4_isCranking 1 = .ok (.bipush (-20), 2) := by decide +kernel
theorem dX4_isCranking_3 : decode cX4_isCranking 3 = .ok (.if_icmp .lt 27, 3) := by decide +kernel
theorem dX4_isCranking_6 : decode cX4_isCranking 6 = .ok (.iload_n 0, 1) := by decide +kernel
theorem dX4_isCranking_7 : decode cX4_isCranking 7 = .ok (.bipush 20, 2) := by decide +kernel
theorem dX4_isCranking_9 : decode cX4_isCranking 9 = .ok (.if_icmp .gt 21, 3) := by decide +kernel
theorem dX4_isCranking_12 : decode cX4_isCranking 12 = .ok (.iload_n 0, 1) := by decide +kernel
theorem dX4_isCranking_13 : decode cX4_isCranking 13 = .ok (.ifCond .eq 17, 3) := by decide +kernel
theorem dX4_isCranking_16 : decode cX4_isCranking 16 = .ok (.iload_n 1, 1) := by decide +kernel
theorem dX4_isCranking_17 : decode cX4_isCranking 17 = .ok (.iconst 1, 1) := by decide +kernel
theorem dX4_isCranking_18 : decode cX4_isCranking 18 = .ok (.if_icmp .lt 12, 3) := by decide +kernel
theorem dX4_isCranking_21 : decode cX4_isCranking 21 = .ok (.iload_n 1, 1) := by decide +kernel
theorem dX4_isCranking_22 : decode cX4_isCranking 22 = .ok (.iconst 3, 1) := by decide +kernel
theorem dX4_isCranking_23 : decode cX4_isCranking 23 = .ok (.if_icmp .gt 7, 3) := by decide +kernel
theorem dX4_isCranking_26 : decode cX4_isCranking 26 = .ok (.iconst 1, 1) := by decide +kernel
theorem dX4_isCranking_27 : decode cX4_isCranking 27 = .ok (.goto 4, 3) := by decide +kernel
theorem dX4_isCranking_30 : decode cX4_isCranking 30 = .ok (.iconst 0, 1) := by decide +kernel
theorem dX4_isCranking_31 : decode cX4_isCranking 31 = .ok (.ireturn, 1) := by decide +kernel
set_option maxRecDepth 20000 in
theorem ggX4_remember_X0_become : GoodIn wsX4_remember wsX0_become := goodIn_r _ [8, 9, 10, 11, 12, 13, 14, 15, 16, 17, 18, 19, 20, 21, 22, 23, 24, 25, 26, 27, 28, 29, 30, 31, 32, 33, 34, 35, 36, 37, 38, 39, 40, 41, 46, 47, 48, 49, 50, 51, 52, 53, 54, 55, 56, 57, 58, 59, 60, 61, 62, 63] (by decide +kernel) (by decide +kernel)
set_option maxRecDepth 20000 in
theorem gX4_remember_X0_become : GoodIn wsX4_remember (wsV RX4 210 RX0 yX0_become wsX0_become) := goodIn_app (goodIn_of _ (by decide +kernel)) ggX4_remember_X0_become
theorem dX4_remember_0 : decode cX4_remember 0 = .ok (.aload_n 0, 1) := by decide +kernel
theorem dX4_remember_1 : decode cX4_remember 1 = .ok (.getfield 27, 3) := by decide +kernel
theorem dX4_remember_4 : decode cX4_remember 4 = .ok (.iconst 4, 1) := by decide +kernel
theorem dX4_remember_5 : decode cX4_remember 5 = .ok (.if_icmp .ne 54, 3) := by decide +kernel
theorem dX4_remember_8 : decode cX4_remember 8 = .ok (.aload_n 0, 1) := by decide +kernel
theorem dX4_remember_9 : decode cX4_remember 9 = .ok (.getfield 23, 3) := by decide +kernel
theorem dX4_remember_12 : decode cX4_remember 12 = .ok (.iconst 0, 1) := by decide +kernel
theorem dX4_remember_13 : decode cX4_remember 13 = .ok (.aaload, 1) := by decide +kernel
theorem dX4_remember_14 : decode cX4_remember 14 = .ok (.astore_n 1, 1) := by decide +kernel
theorem dX4_remember_15 : decode cX4_remember 15 = .ok (.iconst 1, 1) := by decide +kernel
theorem dX4_remember_16 : decode cX4_remember 16 = .ok (.istore_n 2, 1) := by decide +kernel
theorem dX4_remember_17 : decode cX4_remember 17 = .ok (.iload_n 2, 1) := by decide +kernel
theorem dX4_remember_18 : decode cX4_remember 18 = .ok (.iconst 4, 1) := by decide +kernel
theorem dX4_remember_19 : decode cX4_remember 19 = .ok (.if_icmp .ge 23, 3) := by decide +kernel
theorem dX4_remember_22 : decode cX4_remember 22 = .ok (.aload_n 0, 1) := by decide +kernel
theorem dX4_remember_23 : decode cX4_remember 23 = .ok (.getfield 23, 3) := by decide +kernel
theorem dX4_remember_26 : decode cX4_remember 26 = .ok (.iload_n 2, 1) := by decide +kernel
theorem dX4_remember_27 : decode cX4_remember 27 = .ok (.iconst 1, 1) := by decide +kernel
theorem dX4_remember_28 : decode cX4_remember 28 = .ok (.isub, 1) := by decide +kernel
theorem dX4_remember_29 : decode cX4_remember 29 = .ok (.aload_n 0, 1) := by decide +kernel
theorem dX4_remember_30 : decode cX4_remember 30 = .ok (.getfield 23, 3) := by decide +kernel
theorem dX4_remember_33 : decode cX4_remember 33 = .ok (.iload_n 2, 1) := by decide +kernel
theorem dX4_remember_34 : decode cX4_remember 34 = .ok (.aaload, 1) := by decide +kernel
theorem dX4_remember_35 : decode cX4_remember 35 = .ok (.aastore, 1) := by decide +kernel
theorem dX4_remember_36 : decode cX4_remember 36 = .ok (.iinc 2 1, 3) := by decide +kernel
theorem dX4_remember_39 : decode cX4_remember 39 = .ok (.goto (-22), 3) := by decide +kernel
theorem dX4_remember_42 : decode cX4_remember 42 = .ok (.aload_n 0, 1) := by decide +kernel
theorem dX4_remember_43 : decode cX4_remember 43 = .ok (.getfield 23, 3) := by decide +kernel
theorem dX4_remember_46 : decode cX4_remember 46 = .ok (.iconst 3, 1) := by decide +kernel
theorem dX4_remember_47 : decode cX4_remember 47 = .ok (.aload_n 1, 1) := by decide +kernel
theorem dX4_remember_48 : decode cX4_remember 48 = .ok (.aastore, 1) := by decide +kernel
theorem dX4_remember_49 : decode cX4_remember 49 = .ok (.aload_n 0, 1) := by decide +kernel
theorem dX4_remember_50 : decode cX4_remember 50 = .ok (.dup, 1) := by decide +kernel
theorem dX4_remember_51 : decode cX4_remember 51 = .ok (.getfield 27, 3) := by decide +kernel
theorem dX4_remember_54 : decode cX4_remember 54 = .ok (.iconst 1, 1) := by decide +kernel
theorem dX4_remember_55 : decode cX4_remember 55 = .ok (.isub, 1) := by decide +kernel
theorem dX4_remember_56 : decode cX4_remember 56 = .ok (.putfield 27, 3) := by decide +kernel
theorem dX4_remember_59 : decode cX4_remember 59 = .ok (.aload_n 0, 1) := by decide +kernel
theorem dX4_remember_60 : decode cX4_remember 60 = .ok (.getfield 23, 3) := by decide +kernel
theorem dX4_remember_63 : decode cX4_remember 63 = .ok (.aload_n 0, 1) := by decide +kernel
theorem dX4_remember_64 : decode cX4_remember 64 = .ok (.getfield 27, 3) := by decide +kernel
theorem dX4_remember_67 : decode cX4_remember 67 = .ok (.aaload, 1) := by decide +kernel
theorem dX4_remember_68 : decode cX4_remember 68 = .ok (.aload_n 0, 1) := by decide +kernel
theorem dX4_remember_69 : decode cX4_remember 69 = .ok (.getfield 19, 3) := by decide +kernel
theorem dX4_remember_72 : decode cX4_remember 72 = .ok (.invokevirtual 210, 3) := by decide +kernel
theorem dX4_remember_75 : decode cX4_remember 75 = .ok (.aload_n 0, 1) := by decide +kernel
theorem dX4_remember_76 : decode cX4_remember 76 = .ok (.dup, 1) := by decide +kernel
theorem dX4_remember_77 : decode cX4_remember 77 = .ok (.getfield 27, 3) := by decide +kernel
theorem dX4_remember_80 : decode cX4_remember 80 = .ok (.iconst 1, 1) := by decide +kernel
theorem dX4_remember_81 : decode cX4_remember 81 = .ok (.iadd, 1) := by decide +kernel
theorem dX4_remember_82 : decode cX4_remember 82 = .ok (.putfield 27, 3) := by decide +kernel
theorem dX4_remember_85 : decode cX4_remember 85 = .ok (.return_, 1) := by decide +kernel
set_option maxRecDepth 20000 in
theorem ggX4_faultPlace_X3_namesAhead : GoodIn wsX4_faultPlace wsX3_namesAhead := goodIn_r _ [7, 8, 9, 45, 46] (by decide +kernel) (by decide +kernel)
set_option maxRecDepth 20000 in
theorem gX4_faultPlace_X3_namesAhead : GoodIn wsX4_faultPlace (wsV RX4 42 RX3 yX3_namesAhead wsX3_namesAhead) := goodIn_app (goodIn_of _ (by decide +kernel)) ggX4_faultPlace_X3_namesAhead
set_option maxRecDepth 20000 in
theorem ggX4_faultPlace_X4_faultReason : GoodIn wsX4_faultPlace wsX4_faultReason := goodIn_r _ [14, 1, 15, 16, 17, 18, 19, 6, 20, 8, 9, 21, 22, 23, 24, 25, 26, 27, 28, 29, 30, 31, 32, 33, 13, 34, 35, 36, 37, 38, 39, 40, 3, 4, 5, 7, 41, 42, 43, 44, 47, 48, 49, 50, 51, 52, 53, 54, 55, 56, 57, 45, 46] (by decide +kernel) (by decide +kernel)
set_option maxRecDepth 20000 in
theorem gX4_faultPlace_X4_faultReason : GoodIn wsX4_faultPlace (wsV RX4 217 RX4 yX4_faultReason wsX4_faultReason) := goodIn_app (goodIn_of _ (by decide +kernel)) ggX4_faultPlace_X4_faultReason
set_option maxRecDepth 20000 in
theorem ggX4_faultPlace_X3_endOfName : GoodIn wsX4_faultPlace wsX3_endOfName := goodIn_r _ [20, 8, 9, 45, 46] (by decide +kernel) (by decide +kernel)
set_option maxRecDepth 20000 in
theorem gX4_faultPlace_X3_endOfName : GoodIn wsX4_faultPlace (wsV RX4 46 RX3 yX3_endOfName wsX3_endOfName) := goodIn_app (goodIn_of _ (by decide +kernel)) ggX4_faultPlace_X3_endOfName
theorem dX4_faultPlace_0 : decode cX4_faultPlace 0 = .ok (.aload_n 0, 1) := by decide +kernel
theorem dX4_faultPlace_1 : decode cX4_faultPlace 1 = .ok (.getfield 10, 3) := by decide +kernel
theorem dX4_faultPlace_4 : decode cX4_faultPlace 4 = .ok (.aload_n 0, 1) := by decide +kernel
theorem dX4_faultPlace_5 : decode cX4_faultPlace 5 = .ok (.getfield 10, 3) := by decide +kernel
theorem dX4_faultPlace_8 : decode cX4_faultPlace 8 = .ok (.getfield 39, 3) := by decide +kernel
theorem dX4_faultPlace_11 : decode cX4_faultPlace 11 = .ok (.invokevirtual 42, 3) := by decide +kernel
theorem dX4_faultPlace_14 : decode cX4_faultPlace 14 = .ok (.iconst 1, 1) := by decide +kernel
theorem dX4_faultPlace_15 : decode cX4_faultPlace 15 = .ok (.iadd, 1) := by decide +kernel
theorem dX4_faultPlace_16 : decode cX4_faultPlace 16 = .ok (.istore_n 1, 1) := by decide +kernel
theorem dX4_faultPlace_17 : decode cX4_faultPlace 17 = .ok (.iconst 0, 1) := by decide +kernel
theorem dX4_faultPlace_18 : decode cX4_faultPlace 18 = .ok (.istore_n 2, 1) := by decide +kernel
theorem dX4_faultPlace_19 : decode cX4_faultPlace 19 = .ok (.iconst 0, 1) := by decide +kernel
theorem dX4_faultPlace_20 : decode cX4_faultPlace 20 = .ok (.istore_n 3, 1) := by decide +kernel
theorem dX4_faultPlace_21 : decode cX4_faultPlace 21 = .ok (.iload_n 3, 1) := by decide +kernel
theorem dX4_faultPlace_22 : decode cX4_faultPlace 22 = .ok (.iload_n 1, 1) := by decide +kernel
theorem dX4_faultPlace_23 : decode cX4_faultPlace 23 = .ok (.if_icmp .ge 30, 3) := by decide +kernel
theorem dX4_faultPlace_26 : decode cX4_faultPlace 26 = .ok (.aload_n 0, 1) := by decide +kernel
theorem dX4_faultPlace_27 : decode cX4_faultPlace 27 = .ok (.iload_n 2, 1) := by decide +kernel
theorem dX4_faultPlace_28 : decode cX4_faultPlace 28 = .ok (.invokevirtual 217, 3) := by decide +kernel
theorem dX4_faultPlace_31 : decode cX4_faultPlace 31 = .ok (.ifCond .eq 5, 3) := by decide +kernel
theorem dX4_faultPlace_34 : decode cX4_faultPlace 34 = .ok (.iload_n 2, 1) := by decide +kernel
theorem dX4_faultPlace_35 : decode cX4_faultPlace 35 = .ok (.ireturn, 1) := by decide +kernel
theorem dX4_faultPlace_36 : decode cX4_faultPlace 36 = .ok (.aload_n 0, 1) := by decide +kernel
theorem dX4_faultPlace_37 : decode cX4_faultPlace 37 = .ok (.getfield 10, 3) := by decide +kernel
theorem dX4_faultPlace_40 : decode cX4_faultPlace 40 = .ok (.iload_n 2, 1) := by decide +kernel
theorem dX4_faultPlace_41 : decode cX4_faultPlace 41 = .ok (.invokevirtual 46, 3) := by decide +kernel
theorem dX4_faultPlace_44 : decode cX4_faultPlace 44 = .ok (.iconst 1, 1) := by decide +kernel
theorem dX4_faultPlace_45 : decode cX4_faultPlace 45 = .ok (.iadd, 1) := by decide +kernel
theorem dX4_faultPlace_46 : decode cX4_faultPlace 46 = .ok (.istore_n 2, 1) := by decide +kernel
theorem dX4_faultPlace_47 : decode cX4_faultPlace 47 = .ok (.iinc 3 1, 3) := by decide +kernel
theorem dX4_faultPlace_50 : decode cX4_faultPlace 50 = .ok (.goto (-29), 3) := by decide +kernel
theorem dX4_faultPlace_53 : decode cX4_faultPlace 53 = .ok (.iconst (-1), 1) := by decide +kernel
theorem dX4_faultPlace_54 : decode cX4_faultPlace 54 = .ok (.ireturn, 1) := by decide +kernel
set_option maxRecDepth 20000 in
theorem ggX4_faultReason_X3_endOfName : GoodIn wsX4_faultReason wsX3_endOfName := goodIn_r _ [8, 9, 10, 51, 52] (by decide +kernel) (by decide +kernel)
set_option maxRecDepth 20000 in
theorem gX4_faultReason_X3_endOfName : GoodIn wsX4_faultReason (wsV RX4 46 RX3 yX3_endOfName wsX3_endOfName) := goodIn_app (goodIn_of _ (by decide +kernel)) ggX4_faultReason_X3_endOfName
set_option maxRecDepth 20000 in
theorem ggX4_faultReason_X3_breakOf : GoodIn wsX4_faultReason wsX3_breakOf := goodIn_r _ [14, 15, 16, 17, 7, 18, 10, 51, 52] (by decide +kernel) (by decide +kernel)
set_option maxRecDepth 20000 in
theorem gX4_faultReason_X3_breakOf : GoodIn wsX4_faultReason (wsV RX4 223 RX3 yX3_breakOf wsX3_breakOf) := goodIn_app (goodIn_of _ (by decide +kernel)) ggX4_faultReason_X3_breakOf
set_option maxRecDepth 20000 in
theorem ggX4_faultReason_X3_width : GoodIn wsX4_faultReason wsX3_width := goodIn_r _ [22, 10, 23, 24, 25, 51, 52] (by decide +kernel) (by decide +kernel)
set_option maxRecDepth 20000 in
theorem gX4_faultReason_X3_width : GoodIn wsX4_faultReason (wsV RX4 226 RX3 yX3_width wsX3_width) := goodIn_app (goodIn_of _ (by decide +kernel)) ggX4_faultReason_X3_width
set_option maxRecDepth 20000 in
theorem ggX4_faultReason_X0_squeezed : GoodIn wsX4_faultReason wsX0_squeezed := goodIn_r _ [30, 31, 40, 41, 42, 43, 44, 45, 46, 47, 48, 49, 50] (by decide +kernel) (by decide +kernel)
set_option maxRecDepth 20000 in
theorem gX4_faultReason_X0_squeezed : GoodIn wsX4_faultReason (wsV RX4 125 RX0 yX0_squeezed wsX0_squeezed) := goodIn_app (goodIn_of _ (by decide +kernel)) ggX4_faultReason_X0_squeezed
set_option maxRecDepth 20000 in
theorem ggX4_faultReason_X3_namesAhead : GoodIn wsX4_faultReason wsX3_namesAhead := goodIn_r _ [35, 9, 10, 51, 52] (by decide +kernel) (by decide +kernel)
set_option maxRecDepth 20000 in
theorem gX4_faultReason_X3_namesAhead : GoodIn wsX4_faultReason (wsV RX4 42 RX3 yX3_namesAhead wsX3_namesAhead) := goodIn_app (goodIn_of _ (by decide +kernel)) ggX4_faultReason_X3_namesAhead
theorem dX4_faultReason_0 : decode cX4_faultReason 0 = .ok (.aload_n 0, 1) := by decide +kernel
theorem dX4_faultReason_1 : decode cX4_faultReason 1 = .ok (.getfield 10, 3) := by decide +kernel
theorem dX4_faultReason_4 : decode cX4_faultReason 4 = .ok (.iload_n 1, 1) := by decide +kernel
theorem dX4_faultReason_5 : decode cX4_faultReason 5 = .ok (.invokevirtual 46, 3) := by decide +kernel
theorem dX4_faultReason_8 : decode cX4_faultReason 8 = .ok (.istore_n 2, 1) := by decide +kernel
theorem dX4_faultReason_9 : decode cX4_faultReason 9 = .ok (.aload_n 0, 1) := by decide +kernel
theorem dX4_faultReason_10 : decode cX4_faultReason 10 = .ok (.getfield 10, 3) := by decide +kernel
theorem dX4_faultReason_13 : decode cX4_faultReason 13 = .ok (.iload_n 1, 1) := by decide +kernel
theorem dX4_faultReason_14 : decode cX4_faultReason 14 = .ok (.iload_n 2, 1) := by decide +kernel
theorem dX4_faultReason_15 : decode cX4_faultReason 15 = .ok (.invokevirtual 223, 3) := by decide +kernel
theorem dX4_faultReason_18 : decode cX4_faultReason 18 = .ok (.iconst (-1), 1) := by decide +kernel
theorem dX4_faultReason_19 : decode cX4_faultReason 19 = .ok (.if_icmp .eq 5, 3) := by decide +kernel
theorem dX4_faultReason_22 : decode cX4_faultReason 22 = .ok (.iconst 1, 1) := by decide +kernel
theorem dX4_faultReason_23 : decode cX4_faultReason 23 = .ok (.ireturn, 1) := by decide +kernel
theorem dX4_faultReason_24 : decode cX4_faultReason 24 = .ok (.aload_n 0, 1) := by decide +kernel
theorem dX4_faultReason_25 : decode cX4_faultReason 25 = .ok (.getfield 19, 3) := by decide +kernel
theorem dX4_faultReason_28 : decode cX4_faultReason 28 = .ok (.aload_n 0, 1) := by decide +kernel
theorem dX4_faultReason_29 : decode cX4_faultReason 29 = .ok (.getfield 10, 3) := by decide +kernel
theorem dX4_faultReason_32 : decode cX4_faultReason 32 = .ok (.iload_n 1, 1) := by decide +kernel
theorem dX4_faultReason_33 : decode cX4_faultReason 33 = .ok (.iload_n 2, 1) := by decide +kernel
theorem dX4_faultReason_34 : decode cX4_faultReason 34 = .ok (.invokevirtual 226, 3) := by decide +kernel
theorem dX4_faultReason_37 : decode cX4_faultReason 37 = .ok (.invokevirtual 125, 3) := by decide +kernel
theorem dX4_faultReason_40 : decode cX4_faultReason 40 = .ok (.sipush 150, 3) := by decide +kernel
theorem dX4_faultReason_43 : decode cX4_faultReason 43 = .ok (.if_icmp .le 5, 3) := by decide +kernel
theorem dX4_faultReason_46 : decode cX4_faultReason 46 = .ok (.iconst 2, 1) := by decide +kernel
theorem dX4_faultReason_47 : decode cX4_faultReason 47 = .ok (.ireturn, 1) := by decide +kernel
theorem dX4_faultReason_48 : decode cX4_faultReason 48 = .ok (.aload_n 0, 1) := by decide +kernel
theorem dX4_faultReason_49 : decode cX4_faultReason 49 = .ok (.getfield 19, 3) := by decide +kernel
theorem dX4_faultReason_52 : decode cX4_faultReason 52 = .ok (.getfield 62, 3) := by decide +kernel
theorem dX4_faultReason_55 : decode cX4_faultReason 55 = .ok (.aload_n 0, 1) := by decide +kernel
theorem dX4_faultReason_56 : decode cX4_faultReason 56 = .ok (.getfield 10, 3) := by decide +kernel
theorem dX4_faultReason_59 : decode cX4_faultReason 59 = .ok (.iload_n 1, 1) := by decide +kernel
theorem dX4_faultReason_60 : decode cX4_faultReason 60 = .ok (.invokevirtual 42, 3) := by decide +kernel
theorem dX4_faultReason_63 : decode cX4_faultReason 63 = .ok (.iadd, 1) := by decide +kernel
theorem dX4_faultReason_64 : decode cX4_faultReason 64 = .ok (.bipush 20, 2) := by decide +kernel
theorem dX4_faultReason_66 : decode cX4_faultReason 66 = .ok (.if_icmp .lt 7, 3) := by decide +kernel
theorem dX4_faultReason_69 : decode cX4_faultReason 69 = .ok (.iconst 3, 1) := by decide +kernel
theorem dX4_faultReason_70 : decode cX4_faultReason 70 = .ok (.goto 4, 3) := by decide +kernel
theorem dX4_faultReason_73 : decode cX4_faultReason 73 = .ok (.iconst 0, 1) := by decide +kernel
theorem dX4_faultReason_74 : decode cX4_faultReason 74 = .ok (.ireturn, 1) := by decide +kernel
set_option maxRecDepth 20000 in
theorem ggX4_faultCause_X3_endOfName : GoodIn wsX4_faultCause wsX3_endOfName := goodIn_r _ [7, 8, 9, 44, 45] (by decide +kernel) (by decide +kernel)
set_option maxRecDepth 20000 in
theorem gX4_faultCause_X3_endOfName : GoodIn wsX4_faultCause (wsV RX4 46 RX3 yX3_endOfName wsX3_endOfName) := goodIn_app (goodIn_of _ (by decide +kernel)) ggX4_faultCause_X3_endOfName
set_option maxRecDepth 20000 in
theorem ggX4_faultCause_X4_faultReason : GoodIn wsX4_faultCause wsX4_faultReason := goodIn_r _ [14, 1, 2, 15, 3, 4, 5, 6, 7, 8, 9, 16, 17, 18, 19, 20, 21, 22, 23, 24, 25, 26, 27, 28, 13, 29, 30, 31, 32, 33, 34, 35, 36, 37, 38, 39, 40, 41, 42, 43, 46, 47, 48, 49, 50, 51, 52, 53, 54, 55, 56, 44, 45] (by decide +kernel) (by decide +kernel)
set_option maxRecDepth 20000 in
theorem gX4_faultCause_X4_faultReason : GoodIn wsX4_faultCause (wsV RX4 217 RX4 yX4_faultReason wsX4_faultReason) := goodIn_app (goodIn_of _ (by decide +kernel)) ggX4_faultCause_X4_faultReason
set_option maxRecDepth 20000 in
theorem ggX4_faultCause_X3_breakOf : GoodIn wsX4_faultCause wsX3_breakOf := goodIn_r _ [19, 20, 21, 22, 6, 23, 9, 44, 45] (by decide +kernel) (by decide +kernel)
set_option maxRecDepth 20000 in
theorem gX4_faultCause_X3_breakOf : GoodIn wsX4_faultCause (wsV RX4 223 RX3 yX3_breakOf wsX3_breakOf) := goodIn_app (goodIn_of _ (by decide +kernel)) ggX4_faultCause_X3_breakOf
set_option maxRecDepth 20000 in
theorem ggX4_faultCause_X3_width : GoodIn wsX4_faultCause wsX3_width := goodIn_r _ [27, 9, 28, 13, 29, 44, 45] (by decide +kernel) (by decide +kernel)
set_option maxRecDepth 20000 in
theorem gX4_faultCause_X3_width : GoodIn wsX4_faultCause (wsV RX4 226 RX3 yX3_width wsX3_width) := goodIn_app (goodIn_of _ (by decide +kernel)) ggX4_faultCause_X3_width
set_option maxRecDepth 20000 in
theorem ggX4_faultCause_X0_squeezed : GoodIn wsX4_faultCause wsX0_squeezed := goodIn_r _ [34, 35, 46, 47, 48, 49, 50, 51, 52, 53, 54, 55, 56] (by decide +kernel) (by decide +kernel)
set_option maxRecDepth 20000 in
theorem gX4_faultCause_X0_squeezed : GoodIn wsX4_faultCause (wsV RX4 125 RX0 yX0_squeezed wsX0_squeezed) := goodIn_app (goodIn_of _ (by decide +kernel)) ggX4_faultCause_X0_squeezed
theorem dX4_faultCause_0 : decode cX4_faultCause 0 = .ok (.aload_n 0, 1) := by decide +kernel
theorem dX4_faultCause_1 : decode cX4_faultCause 1 = .ok (.getfield 10, 3) := by decide +kernel
theorem dX4_faultCause_4 : decode cX4_faultCause 4 = .ok (.iload_n 1, 1) := by decide +kernel
theorem dX4_faultCause_5 : decode cX4_faultCause 5 = .ok (.invokevirtual 46, 3) := by decide +kernel
theorem dX4_faultCause_8 : decode cX4_faultCause 8 = .ok (.istore_n 2, 1) := by decide +kernel
theorem dX4_faultCause_9 : decode cX4_faultCause 9 = .ok (.aload_n 0, 1) := by decide +kernel
theorem dX4_faultCause_10 : decode cX4_faultCause 10 = .ok (.iload_n 1, 1) := by decide +kernel
theorem dX4_faultCause_11 : decode cX4_faultCause 11 = .ok (.invokevirtual 217, 3) := by decide +kernel
theorem dX4_faultCause_14 : decode cX4_faultCause 14 = .ok (.lookupswitch 53 #[(1, 26), (2, 36)], 26) := by decide +kernel
theorem dX4_faultCause_40 : decode cX4_faultCause 40 = .ok (.aload_n 0, 1) := by decide +kernel
theorem dX4_faultCause_41 : decode cX4_faultCause 41 = .ok (.getfield 10, 3) := by decide +kernel
theorem dX4_faultCause_44 : decode cX4_faultCause 44 = .ok (.iload_n 1, 1) := by decide +kernel
theorem dX4_faultCause_45 : decode cX4_faultCause 45 = .ok (.iload_n 2, 1) := by decide +kernel
theorem dX4_faultCause_46 : decode cX4_faultCause 46 = .ok (.invokevirtual 223, 3) := by decide +kernel
theorem dX4_faultCause_49 : decode cX4_faultCause 49 = .ok (.ireturn, 1) := by decide +kernel
theorem dX4_faultCause_50 : decode cX4_faultCause 50 = .ok (.aload_n 0, 1) := by decide +kernel
theorem dX4_faultCause_51 : decode cX4_faultCause 51 = .ok (.getfield 19, 3) := by decide +kernel
theorem dX4_faultCause_54 : decode cX4_faultCause 54 = .ok (.aload_n 0, 1) := by decide +kernel
theorem dX4_faultCause_55 : decode cX4_faultCause 55 = .ok (.getfield 10, 3) := by decide +kernel
theorem dX4_faultCause_58 : decode cX4_faultCause 58 = .ok (.iload_n 1, 1) := by decide +kernel
theorem dX4_faultCause_59 : decode cX4_faultCause 59 = .ok (.iload_n 2, 1) := by decide +kernel
theorem dX4_faultCause_60 : decode cX4_faultCause 60 = .ok (.invokevirtual 226, 3) := by decide +kernel
theorem dX4_faultCause_63 : decode cX4_faultCause 63 = .ok (.invokevirtual 125, 3) := by decide +kernel
theorem dX4_faultCause_66 : decode cX4_faultCause 66 = .ok (.ireturn, 1) := by decide +kernel
theorem dX4_faultCause_67 : decode cX4_faultCause 67 = .ok (.iload_n 2, 1) := by decide +kernel
theorem dX4_faultCause_68 : decode cX4_faultCause 68 = .ok (.iload_n 1, 1) := by decide +kernel
theorem dX4_faultCause_69 : decode cX4_faultCause 69 = .ok (.isub, 1) := by decide +kernel
theorem dX4_faultCause_70 : decode cX4_faultCause 70 = .ok (.ireturn, 1) := by decide +kernel
theorem dX4_letterWidth_0 : decode cX4_letterWidth 0 = .ok (.iload_n 0, 1) := by decide +kernel
theorem dX4_letterWidth_1 : decode cX4_letterWidth 1 = .ok (.bipush 73, 2) := by decide +kernel
theorem dX4_letterWidth_3 : decode cX4_letterWidth 3 = .ok (.if_icmp .eq 9, 3) := by decide +kernel
theorem dX4_letterWidth_6 : decode cX4_letterWidth 6 = .ok (.iload_n 0, 1) := by decide +kernel
theorem dX4_letterWidth_7 : decode cX4_letterWidth 7 = .ok (.bipush 32, 2) := by decide +kernel
theorem dX4_letterWidth_9 : decode cX4_letterWidth 9 = .ok (.if_icmp .ne 5, 3) := by decide +kernel
theorem dX4_letterWidth_12 : decode cX4_letterWidth 12 = .ok (.iconst 1, 1) := by decide +kernel
theorem dX4_letterWidth_13 : decode cX4_letterWidth 13 = .ok (.ireturn, 1) := by decide +kernel
theorem dX4_letterWidth_14 : decode cX4_letterWidth 14 = .ok (.iload_n 0, 1) := by decide +kernel
theorem dX4_letterWidth_15 : decode cX4_letterWidth 15 = .ok (.bipush 77, 2) := by decide +kernel
theorem dX4_letterWidth_17 : decode cX4_letterWidth 17 = .ok (.if_icmp .eq 9, 3) := by decide +kernel
theorem dX4_letterWidth_20 : decode cX4_letterWidth 20 = .ok (.iload_n 0, 1) := by decide +kernel
theorem dX4_letterWidth_21 : decode cX4_letterWidth 21 = .ok (.bipush 87, 2) := by decide +kernel
theorem dX4_letterWidth_23 : decode cX4_letterWidth 23 = .ok (.if_icmp .ne 7, 3) := by decide +kernel
theorem dX4_letterWidth_26 : decode cX4_letterWidth 26 = .ok (.iconst 3, 1) := by decide +kernel
theorem dX4_letterWidth_27 : decode cX4_letterWidth 27 = .ok (.goto 4, 3) := by decide +kernel
theorem dX4_letterWidth_30 : decode cX4_letterWidth 30 = .ok (.iconst 2, 1) := by decide +kernel
theorem dX4_letterWidth_31 : decode cX4_letterWidth 31 = .ok (.ireturn, 1) := by decide +kernel
