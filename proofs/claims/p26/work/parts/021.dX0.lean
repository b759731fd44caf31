set_option maxRecDepth 20000 in
theorem ggX0_init_X2_init : GoodIn wsX0_init wsX2_init := goodIn_r _ [21, 22, 2, 3, 23, 24, 39, 40, 41, 42] (by decide +kernel) (by decide +kernel)
set_option maxRecDepth 20000 in
theorem gX0_init_X2_init : GoodIn wsX0_init (wsX2_init) := ggX0_init_X2_init
set_option maxRecDepth 20000 in
theorem ggX0_init_X1_init : GoodIn wsX0_init wsX1_init := goodIn_r _ [26, 27, 2, 3] (by decide +kernel) (by decide +kernel)
set_option maxRecDepth 20000 in
theorem gX0_init_X1_init_n24 : GoodIn wsX0_init (wsX1_init) := ggX0_init_X1_init
theorem dX0_init_0 : decode cX0_init 0 = .ok (.aload_n 0, 1) := by decide +kernel
theorem dX0_init_1 : decode cX0_init 1 = .ok (.invokespecial 3, 3) := by decide +kernel
theorem dX0_init_4 : decode cX0_init 4 = .ok (.aload_n 0, 1) := by decide +kernel
theorem dX0_init_5 : decode cX0_init 5 = .ok (.bipush 20, 2) := by decide +kernel
theorem dX0_init_7 : decode cX0_init 7 = .ok (.anewarray 9, 3) := by decide +kernel
theorem dX0_init_10 : decode cX0_init 10 = .ok (.putfield 11, 3) := by decide +kernel
theorem dX0_init_13 : decode cX0_init 13 = .ok (.iconst 0, 1) := by decide +kernel
theorem dX0_init_14 : decode cX0_init 14 = .ok (.istore_n 1, 1) := by decide +kernel
theorem dX0_init_15 : decode cX0_init 15 = .ok (.iload_n 1, 1) := by decide +kernel
theorem dX0_init_16 : decode cX0_init 16 = .ok (.bipush 20, 2) := by decide +kernel
theorem dX0_init_18 : decode cX0_init 18 = .ok (.if_icmp .ge 22, 3) := by decide +kernel
theorem dX0_init_21 : decode cX0_init 21 = .ok (.aload_n 0, 1) := by decide +kernel
theorem dX0_init_22 : decode cX0_init 22 = .ok (.getfield 11, 3) := by decide +kernel
theorem dX0_init_25 : decode cX0_init 25 = .ok (.iload_n 1, 1) := by decide +kernel
theorem dX0_init_26 : decode cX0_init 26 = .ok (.new 9, 3) := by decide +kernel
theorem dX0_init_29 : decode cX0_init 29 = .ok (.dup, 1) := by decide +kernel
theorem dX0_init_30 : decode cX0_init 30 = .ok (.invokespecial 17, 3) := by decide +kernel
theorem dX0_init_33 : decode cX0_init 33 = .ok (.aastore, 1) := by decide +kernel
theorem dX0_init_34 : decode cX0_init 34 = .ok (.iinc 1 1, 3) := by decide +kernel
theorem dX0_init_37 : decode cX0_init 37 = .ok (.goto (-22), 3) := by decide +kernel
theorem dX0_init_40 : decode cX0_init 40 = .ok (.aload_n 0, 1) := by decide +kernel
theorem dX0_init_41 : decode cX0_init 41 = .ok (.bipush 6, 2) := by decide +kernel
theorem dX0_init_43 : decode cX0_init 43 = .ok (.anewarray 18, 3) := by decide +kernel
theorem dX0_init_46 : decode cX0_init 46 = .ok (.putfield 20, 3) := by decide +kernel
theorem dX0_init_49 : decode cX0_init 49 = .ok (.iconst 0, 1) := by decide +kernel
theorem dX0_init_50 : decode cX0_init 50 = .ok (.istore_n 1, 1) := by decide +kernel
theorem dX0_init_51 : decode cX0_init 51 = .ok (.iload_n 1, 1) := by decide +kernel
theorem dX0_init_52 : decode cX0_init 52 = .ok (.bipush 6, 2) := by decide +kernel
theorem dX0_init_54 : decode cX0_init 54 = .ok (.if_icmp .ge 22, 3) := by decide +kernel
theorem dX0_init_57 : decode cX0_init 57 = .ok (.aload_n 0, 1) := by decide +kernel
theorem dX0_init_58 : decode cX0_init 58 = .ok (.getfield 20, 3) := by decide +kernel
theorem dX0_init_61 : decode cX0_init 61 = .ok (.iload_n 1, 1) := by decide +kernel
theorem dX0_init_62 : decode cX0_init 62 = .ok (.new 18, 3) := by decide +kernel
theorem dX0_init_65 : decode cX0_init 65 = .ok (.dup, 1) := by decide +kernel
theorem dX0_init_66 : decode cX0_init 66 = .ok (.invokespecial 24, 3) := by decide +kernel
theorem dX0_init_69 : decode cX0_init 69 = .ok (.aastore, 1) := by decide +kernel
theorem dX0_init_70 : decode cX0_init 70 = .ok (.iinc 1 1, 3) := by decide +kernel
theorem dX0_init_73 : decode cX0_init 73 = .ok (.goto (-22), 3) := by decide +kernel
theorem dX0_init_76 : decode cX0_init 76 = .ok (.aload_n 0, 1) := by decide +kernel
theorem dX0_init_77 : decode cX0_init 77 = .ok (.iconst 3, 1) := by decide +kernel
theorem dX0_init_78 : decode cX0_init 78 = .ok (.newarray .int, 2) := by decide +kernel
theorem dX0_init_80 : decode cX0_init 80 = .ok (.putfield 25, 3) := by decide +kernel
theorem dX0_init_83 : decode cX0_init 83 = .ok (.getstatic 29, 3) := by decide +kernel
theorem dX0_init_86 : decode cX0_init 86 = .ok (.iconst 0, 1) := by decide +kernel
theorem dX0_init_87 : decode cX0_init 87 = .ok (.aload_n 0, 1) := by decide +kernel
theorem dX0_init_88 : decode cX0_init 88 = .ok (.getfield 25, 3) := by decide +kernel
theorem dX0_init_91 : decode cX0_init 91 = .ok (.iconst 0, 1) := by decide +kernel
theorem dX0_init_92 : decode cX0_init 92 = .ok (.iconst 3, 1) := by decide +kernel
theorem dX0_init_93 : decode cX0_init 93 = .ok (.invokestatic 32, 3) := by decide +kernel
theorem dX0_init_96 : decode cX0_init 96 = .ok (.aload_n 0, 1) := by decide +kernel
theorem dX0_init_97 : decode cX0_init 97 = .ok (.iconst (-1), 1) := by decide +kernel
theorem dX0_init_98 : decode cX0_init 98 = .ok (.putfield 38, 3) := by decide +kernel
theorem dX0_init_101 : decode cX0_init 101 = .ok (.return_, 1) := by decide +kernel
set_option maxRecDepth 20000 in
theorem ggX0_become_X2_copyRow : GoodIn wsX0_become wsX2_copyRow := goodIn_r _ [20, 21, 22, 5, 6, 7, 23, 24, 25, 45, 46, 47, 48] (by decide +kernel) (by decide +kernel)
set_option maxRecDepth 20000 in
theorem gX0_become_X2_copyRow : GoodIn wsX0_become (wsV RX0 42 RX2 yX2_copyRow wsX2_copyRow) := goodIn_app (goodIn_of _ (by decide +kernel)) ggX0_become_X2_copyRow
set_option maxRecDepth 20000 in
theorem ggX0_become_X1_copyRoute : GoodIn wsX0_become wsX1_copyRoute := goodIn_r _ [30, 31, 32, 33, 49, 50, 51] (by decide +kernel) (by decide +kernel)
set_option maxRecDepth 20000 in
theorem gX0_become_X1_copyRoute : GoodIn wsX0_become (wsV RX0 46 RX1 yX1_copyRoute wsX1_copyRoute) := goodIn_app (goodIn_of _ (by decide +kernel)) ggX0_become_X1_copyRoute
theorem dX0_become_0 : decode cX0_become 0 = .ok (.iconst 0, 1) := by decide +kernel
theorem dX0_become_1 : decode cX0_become 1 = .ok (.istore_n 2, 1) := by decide +kernel
theorem dX0_become_2 : decode cX0_become 2 = .ok (.iload_n 2, 1) := by decide +kernel
theorem dX0_become_3 : decode cX0_become 3 = .ok (.bipush 20, 2) := by decide +kernel
theorem dX0_become_5 : decode cX0_become 5 = .ok (.if_icmp .ge 24, 3) := by decide +kernel
theorem dX0_become_8 : decode cX0_become 8 = .ok (.aload_n 0, 1) := by decide +kernel
theorem dX0_become_9 : decode cX0_become 9 = .ok (.getfield 11, 3) := by decide +kernel
theorem dX0_become_12 : decode cX0_become 12 = .ok (.iload_n 2, 1) := by decide +kernel
theorem dX0_become_13 : decode cX0_become 13 = .ok (.aaload, 1) := by decide +kernel
theorem dX0_become_14 : decode cX0_become 14 = .ok (.aload_n 1, 1) := by decide +kernel
theorem dX0_become_15 : decode cX0_become 15 = .ok (.getfield 11, 3) := by decide +kernel
theorem dX0_become_18 : decode cX0_become 18 = .ok (.iload_n 2, 1) := by decide +kernel
theorem dX0_become_19 : decode cX0_become 19 = .ok (.aaload, 1) := by decide +kernel
theorem dX0_become_20 : decode cX0_become 20 = .ok (.invokevirtual 42, 3) := by decide +kernel
theorem dX0_become_23 : decode cX0_become 23 = .ok (.iinc 2 1, 3) := by decide +kernel
theorem dX0_become_26 : decode cX0_become 26 = .ok (.goto (-24), 3) := by decide +kernel
theorem dX0_become_29 : decode cX0_become 29 = .ok (.iconst 0, 1) := by decide +kernel
theorem dX0_become_30 : decode cX0_become 30 = .ok (.istore_n 2, 1) := by decide +kernel
theorem dX0_become_31 : decode cX0_become 31 = .ok (.iload_n 2, 1) := by decide +kernel
theorem dX0_become_32 : decode cX0_become 32 = .ok (.bipush 6, 2) := by decide +kernel
theorem dX0_become_34 : decode cX0_become 34 = .ok (.if_icmp .ge 24, 3) := by decide +kernel
theorem dX0_become_37 : decode cX0_become 37 = .ok (.aload_n 0, 1) := by decide +kernel
theorem dX0_become_38 : decode cX0_become 38 = .ok (.getfield 20, 3) := by decide +kernel
theorem dX0_become_41 : decode cX0_become 41 = .ok (.iload_n 2, 1) := by decide +kernel
theorem dX0_become_42 : decode cX0_become 42 = .ok (.aaload, 1) := by decide +kernel
theorem dX0_become_43 : decode cX0_become 43 = .ok (.aload_n 1, 1) := by decide +kernel
theorem dX0_become_44 : decode cX0_become 44 = .ok (.getfield 20, 3) := by decide +kernel
theorem dX0_become_47 : decode cX0_become 47 = .ok (.iload_n 2, 1) := by decide +kernel
theorem dX0_become_48 : decode cX0_become 48 = .ok (.aaload, 1) := by decide +kernel
theorem dX0_become_49 : decode cX0_become 49 = .ok (.invokevirtual 46, 3) := by decide +kernel
theorem dX0_become_52 : decode cX0_become 52 = .ok (.iinc 2 1, 3) := by decide +kernel
theorem dX0_become_55 : decode cX0_become 55 = .ok (.goto (-24), 3) := by decide +kernel
theorem dX0_become_58 : decode cX0_become 58 = .ok (.aload_n 1, 1) := by decide +kernel
theorem dX0_become_59 : decode cX0_become 59 = .ok (.getfield 25, 3) := by decide +kernel
theorem dX0_become_62 : decode cX0_become 62 = .ok (.iconst 0, 1) := by decide +kernel
theorem dX0_become_63 : decode cX0_become 63 = .ok (.aload_n 0, 1) := by decide +kernel
theorem dX0_become_64 : decode cX0_become 64 = .ok (.getfield 25, 3) := by decide +kernel
theorem dX0_become_67 : decode cX0_become 67 = .ok (.iconst 0, 1) := by decide +kernel
theorem dX0_become_68 : decode cX0_become 68 = .ok (.iconst 3, 1) := by decide +kernel
theorem dX0_become_69 : decode cX0_become 69 = .ok (.invokestatic 32, 3) := by decide +kernel
theorem dX0_become_72 : decode cX0_become 72 = .ok (.aload_n 0, 1) := by decide +kernel
theorem dX0_become_73 : decode cX0_become 73 = .ok (.aload_n 1, 1) := by decide +kernel
theorem dX0_become_74 : decode cX0_become 74 = .ok (.getfield 50, 3) := by decide +kernel
theorem dX0_become_77 : decode cX0_become 77 = .ok (.putfield 50, 3) := by decide +kernel
theorem dX0_become_80 : decode cX0_become 80 = .ok (.aload_n 0, 1) := by decide +kernel
theorem dX0_become_81 : decode cX0_become 81 = .ok (.aload_n 1, 1) := by decide +kernel
theorem dX0_become_82 : decode cX0_become 82 = .ok (.getfield 53, 3) := by decide +kernel
theorem dX0_become_85 : decode cX0_become 85 = .ok (.putfield 53, 3) := by decide +kernel
theorem dX0_become_88 : decode cX0_become 88 = .ok (.aload_n 0, 1) := by decide +kernel
theorem dX0_become_89 : decode cX0_become 89 = .ok (.aload_n 1, 1) := by decide +kernel
theorem dX0_become_90 : decode cX0_become 90 = .ok (.getfield 56, 3) := by decide +kernel
theorem dX0_become_93 : decode cX0_become 93 = .ok (.putfield 56, 3) := by decide +kernel
theorem dX0_become_96 : decode cX0_become 96 = .ok (.aload_n 0, 1) := by decide +kernel
theorem dX0_become_97 : decode cX0_become 97 = .ok (.aload_n 1, 1) := by decide +kernel
theorem dX0_become_98 : decode cX0_become 98 = .ok (.getfield 38, 3) := by decide +kernel
theorem dX0_become_101 : decode cX0_become 101 = .ok (.putfield 38, 3) := by decide +kernel
theorem dX0_become_104 : decode cX0_become 104 = .ok (.aload_n 0, 1) := by decide +kernel
theorem dX0_become_105 : decode cX0_become 105 = .ok (.aload_n 1, 1) := by decide +kernel
theorem dX0_become_106 : decode cX0_become 106 = .ok (.getfield 59, 3) := by decide +kernel
theorem dX0_become_109 : decode cX0_become 109 = .ok (.putfield 59, 3) := by decide +kernel
theorem dX0_become_112 : decode cX0_become 112 = .ok (.aload_n 0, 1) := by decide +kernel
theorem dX0_become_113 : decode cX0_become 113 = .ok (.aload_n 1, 1) := by decide +kernel
theorem dX0_become_114 : decode cX0_become 114 = .ok (.getfield 62, 3) := by decide +kernel
theorem dX0_become_117 : decode cX0_become 117 = .ok (.putfield 62, 3) := by decide +kernel
theorem dX0_become_120 : decode cX0_become 120 = .ok (.aload_n 0, 1) := by decide +kernel
theorem dX0_become_121 : decode cX0_become 121 = .ok (.aload_n 1, 1) := by decide +kernel
theorem dX0_become_122 : decode cX0_become 122 = .ok (.getfield 65, 3) := by decide +kernel
theorem dX0_become_125 : decode cX0_become 125 = .ok (.putfield 65, 3) := by decide +kernel
theorem dX0_become_128 : decode cX0_become 128 = .ok (.aload_n 0, 1) := by decide +kernel
theorem dX0_become_129 : decode cX0_become 129 = .ok (.aload_n 1, 1) := by decide +kernel
theorem dX0_become_130 : decode cX0_become 130 = .ok (.getfield 68, 3) := by decide +kernel
theorem dX0_become_133 : decode cX0_become 133 = .ok (.putfield 68, 3) := by decide +kernel
theorem dX0_become_136 : decode cX0_become 136 = .ok (.return_, 1) := by decide +kernel
theorem dX0_hasRow_0 : decode cX0_hasRow 0 = .ok (.iload_n 1, 1) := by decide +kernel
theorem dX0_hasRow_1 : decode cX0_hasRow 1 = .ok (.ifCond .lt 15, 3) := by decide +kernel
theorem dX0_hasRow_4 : decode cX0_hasRow 4 = .ok (.iload_n 1, 1) := by decide +kernel
theorem dX0_hasRow_5 : decode cX0_hasRow 5 = .ok (.aload_n 0, 1) := by decide +kernel
theorem dX0_hasRow_6 : decode cX0_hasRow 6 = .ok (.getfield 50, 3) := by decide +kernel
theorem dX0_hasRow_9 : decode cX0_hasRow 9 = .ok (.if_icmp .ge 7, 3) := by decide +kernel
theorem dX0_hasRow_12 : decode cX0_hasRow 12 = .ok (.iconst 1, 1) := by decide +kernel
theorem dX0_hasRow_13 : decode cX0_hasRow 13 = .ok (.goto 4, 3) := by decide +kernel
theorem dX0_hasRow_16 : decode cX0_hasRow 16 = .ok (.iconst 0, 1) := by decide +kernel
theorem dX0_hasRow_17 : decode cX0_hasRow 17 = .ok (.ireturn, 1) := by decide +kernel
theorem dX0_hasRoute_0 : decode cX0_hasRoute 0 = .ok (.iload_n 1, 1) := by decide +kernel
theorem dX0_hasRoute_1 : decode cX0_hasRoute 1 = .ok (.ifCond .lt 15, 3) := by decide +kernel
theorem dX0_hasRoute_4 : decode cX0_hasRoute 4 = .ok (.iload_n 1, 1) := by decide +kernel
theorem dX0_hasRoute_5 : decode cX0_hasRoute 5 = .ok (.aload_n 0, 1) := by decide +kernel
theorem dX0_hasRoute_6 : decode cX0_hasRoute 6 = .ok (.getfield 56, 3) := by decide +kernel
theorem dX0_hasRoute_9 : decode cX0_hasRoute 9 = .ok (.if_icmp .ge 7, 3) := by decide +kernel
theorem dX0_hasRoute_12 : decode cX0_hasRoute 12 = .ok (.iconst 1, 1) := by decide +kernel
theorem dX0_hasRoute_13 : decode cX0_hasRoute 13 = .ok (.goto 4, 3) := by decide +kernel
theorem dX0_hasRoute_16 : decode cX0_hasRoute 16 = .ok (.iconst 0, 1) := by decide +kernel
theorem dX0_hasRoute_17 : decode cX0_hasRoute 17 = .ok (.ireturn, 1) := by decide +kernel
set_option maxRecDepth 20000 in
theorem ggX0_append_X2_begin : GoodIn wsX0_append wsX2_begin := goodIn_r _ [7, 8, 9, 10, 11, 12, 24, 25, 26, 27, 28, 29] (by decide +kernel) (by decide +kernel)
set_option maxRecDepth 20000 in
theorem gX0_append_X2_begin : GoodIn wsX0_append (wsV RX0 71 RX2 yX2_begin wsX2_begin) := goodIn_app (goodIn_of _ (by decide +kernel)) ggX0_append_X2_begin
theorem dX0_append_0 : decode cX0_append 0 = .ok (.aload_n 0, 1) := by decide +kernel
theorem dX0_append_1 : decode cX0_append 1 = .ok (.getfield 50, 3) := by decide +kernel
theorem dX0_append_4 : decode cX0_append 4 = .ok (.bipush 20, 2) := by decide +kernel
theorem dX0_append_6 : decode cX0_append 6 = .ok (.if_icmp .ge 28, 3) := by decide +kernel
theorem dX0_append_9 : decode cX0_append 9 = .ok (.aload_n 0, 1) := by decide +kernel
theorem dX0_append_10 : decode cX0_append 10 = .ok (.getfield 11, 3) := by decide +kernel
theorem dX0_append_13 : decode cX0_append 13 = .ok (.aload_n 0, 1) := by decide +kernel
theorem dX0_append_14 : decode cX0_append 14 = .ok (.getfield 50, 3) := by decide +kernel
theorem dX0_append_17 : decode cX0_append 17 = .ok (.aaload, 1) := by decide +kernel
theorem dX0_append_18 : decode cX0_append 18 = .ok (.aload_n 1, 1) := by decide +kernel
theorem dX0_append_19 : decode cX0_append 19 = .ok (.iload_n 2, 1) := by decide +kernel
theorem dX0_append_20 : decode cX0_append 20 = .ok (.iload_n 3, 1) := by decide +kernel
theorem dX0_append_21 : decode cX0_append 21 = .ok (.invokevirtual 71, 3) := by decide +kernel
theorem dX0_append_24 : decode cX0_append 24 = .ok (.aload_n 0, 1) := by decide +kernel
theorem dX0_append_25 : decode cX0_append 25 = .ok (.dup, 1) := by decide +kernel
theorem dX0_append_26 : decode cX0_append 26 = .ok (.getfield 50, 3) := by decide +kernel
theorem dX0_append_29 : decode cX0_append 29 = .ok (.iconst 1, 1) := by decide +kernel
theorem dX0_append_30 : decode cX0_append 30 = .ok (.iadd, 1) := by decide +kernel
theorem dX0_append_31 : decode cX0_append 31 = .ok (.putfield 50, 3) := by decide +kernel
theorem dX0_append_34 : decode cX0_append 34 = .ok (.return_, 1) := by decide +kernel
set_option maxRecDepth 20000 in
theorem ggX0_remove_X1_forget : GoodIn wsX0_remove wsX1_forget := goodIn_r _ [10, 11, 23, 24, 25] (by decide +kernel) (by decide +kernel)
set_option maxRecDepth 20000 in
theorem gX0_remove_X1_forget : GoodIn wsX0_remove (wsV RX0 75 RX1 yX1_forget wsX1_forget) := goodIn_app (goodIn_of _ (by decide +kernel)) ggX0_remove_X1_forget
theorem dX0_remove_0 : decode cX0_remove 0 = .ok (.aload_n 0, 1) := by decide +kernel
theorem dX0_remove_1 : decode cX0_remove 1 = .ok (.getfield 11, 3) := by decide +kernel
theorem dX0_remove_4 : decode cX0_remove 4 = .ok (.iload_n 1, 1) := by decide +kernel
theorem dX0_remove_5 : decode cX0_remove 5 = .ok (.aaload, 1) := by decide +kernel
theorem dX0_remove_6 : decode cX0_remove 6 = .ok (.astore_n 2, 1) := by decide +kernel
theorem dX0_remove_7 : decode cX0_remove 7 = .ok (.iload_n 1, 1) := by decide +kernel
theorem dX0_remove_8 : decode cX0_remove 8 = .ok (.iconst 1, 1) := by decide +kernel
theorem dX0_remove_9 : decode cX0_remove 9 = .ok (.iadd, 1) := by decide +kernel
theorem dX0_remove_10 : decode cX0_remove 10 = .ok (.istore_n 3, 1) := by decide +kernel
theorem dX0_remove_11 : decode cX0_remove 11 = .ok (.iload_n 3, 1) := by decide +kernel
theorem dX0_remove_12 : decode cX0_remove 12 = .ok (.aload_n 0, 1) := by decide +kernel
theorem dX0_remove_13 : decode cX0_remove 13 = .ok (.getfield 50, 3) := by decide +kernel
theorem dX0_remove_16 : decode cX0_remove 16 = .ok (.if_icmp .ge 23, 3) := by decide +kernel
theorem dX0_remove_19 : decode cX0_remove 19 = .ok (.aload_n 0, 1) := by decide +kernel
theorem dX0_remove_20 : decode cX0_remove 20 = .ok (.getfield 11, 3) := by decide +kernel
theorem dX0_remove_23 : decode cX0_remove 23 = .ok (.iload_n 3, 1) := by decide +kernel
theorem dX0_remove_24 : decode cX0_remove 24 = .ok (.iconst 1, 1) := by decide +kernel
theorem dX0_remove_25 : decode cX0_remove 25 = .ok (.isub, 1) := by decide +kernel
theorem dX0_remove_26 : decode cX0_remove 26 = .ok (.aload_n 0, 1) := by decide +kernel
theorem dX0_remove_27 : decode cX0_remove 27 = .ok (.getfield 11, 3) := by decide +kernel
theorem dX0_remove_30 : decode cX0_remove 30 = .ok (.iload_n 3, 1) := by decide +kernel
theorem dX0_remove_31 : decode cX0_remove 31 = .ok (.aaload, 1) := by decide +kernel
theorem dX0_remove_32 : decode cX0_remove 32 = .ok (.aastore, 1) := by decide +kernel
theorem dX0_remove_33 : decode cX0_remove 33 = .ok (.iinc 3 1, 3) := by decide +kernel
theorem dX0_remove_36 : decode cX0_remove 36 = .ok (.goto (-25), 3) := by decide +kernel
theorem dX0_remove_39 : decode cX0_remove 39 = .ok (.aload_n 0, 1) := by decide +kernel
theorem dX0_remove_40 : decode cX0_remove 40 = .ok (.dup, 1) := by decide +kernel
theorem dX0_remove_41 : decode cX0_remove 41 = .ok (.getfield 50, 3) := by decide +kernel
theorem dX0_remove_44 : decode cX0_remove 44 = .ok (.iconst 1, 1) := by decide +kernel
theorem dX0_remove_45 : decode cX0_remove 45 = .ok (.isub, 1) := by decide +kernel
theorem dX0_remove_46 : decode cX0_remove 46 = .ok (.putfield 50, 3) := by decide +kernel
theorem dX0_remove_49 : decode cX0_remove 49 = .ok (.aload_n 0, 1) := by decide +kernel
theorem dX0_remove_50 : decode cX0_remove 50 = .ok (.getfield 11, 3) := by decide +kernel
theorem dX0_remove_53 : decode cX0_remove 53 = .ok (.aload_n 0, 1) := by decide +kernel
theorem dX0_remove_54 : decode cX0_remove 54 = .ok (.getfield 50, 3) := by decide +kernel
theorem dX0_remove_57 : decode cX0_remove 57 = .ok (.aload_n 2, 1) := by decide +kernel
theorem dX0_remove_58 : decode cX0_remove 58 = .ok (.aastore, 1) := by decide +kernel
theorem dX0_remove_59 : decode cX0_remove 59 = .ok (.iconst 0, 1) := by decide +kernel
theorem dX0_remove_60 : decode cX0_remove 60 = .ok (.istore_n 3, 1) := by decide +kernel
theorem dX0_remove_61 : decode cX0_remove 61 = .ok (.iload_n 3, 1) := by decide +kernel
theorem dX0_remove_62 : decode cX0_remove 62 = .ok (.aload_n 0, 1) := by decide +kernel
theorem dX0_remove_63 : decode cX0_remove 63 = .ok (.getfield 56, 3) := by decide +kernel
theorem dX0_remove_66 : decode cX0_remove 66 = .ok (.if_icmp .ge 19, 3) := by decide +kernel
theorem dX0_remove_69 : decode cX0_remove 69 = .ok (.aload_n 0, 1) := by decide +kernel
theorem dX0_remove_70 : decode cX0_remove 70 = .ok (.getfield 20, 3) := by decide +kernel
theorem dX0_remove_73 : decode cX0_remove 73 = .ok (.iload_n 3, 1) := by decide +kernel
theorem dX0_remove_74 : decode cX0_remove 74 = .ok (.aaload, 1) := by decide +kernel
theorem dX0_remove_75 : decode cX0_remove 75 = .ok (.iload_n 1, 1) := by decide +kernel
theorem dX0_remove_76 : decode cX0_remove 76 = .ok (.invokevirtual 75, 3) := by decide +kernel
theorem dX0_remove_79 : decode cX0_remove 79 = .ok (.iinc 3 1, 3) := by decide +kernel
theorem dX0_remove_82 : decode cX0_remove 82 = .ok (.goto (-21), 3) := by decide +kernel
theorem dX0_remove_85 : decode cX0_remove 85 = .ok (.aload_n 0, 1) := by decide +kernel
theorem dX0_remove_86 : decode cX0_remove 86 = .ok (.getfield 53, 3) := by decide +kernel
theorem dX0_remove_89 : decode cX0_remove 89 = .ok (.aload_n 0, 1) := by decide +kernel
theorem dX0_remove_90 : decode cX0_remove 90 = .ok (.getfield 50, 3) := by decide +kernel
theorem dX0_remove_93 : decode cX0_remove 93 = .ok (.if_icmp .ne 7, 3) := by decide +kernel
theorem dX0_remove_96 : decode cX0_remove 96 = .ok (.iconst 1, 1) := by decide +kernel
theorem dX0_remove_97 : decode cX0_remove 97 = .ok (.goto 4, 3) := by decide +kernel
theorem dX0_remove_100 : decode cX0_remove 100 = .ok (.iconst 0, 1) := by decide +kernel
theorem dX0_remove_101 : decode cX0_remove 101 = .ok (.istore_n 3, 1) := by decide +kernel
theorem dX0_remove_102 : decode cX0_remove 102 = .ok (.aload_n 0, 1) := by decide +kernel
theorem dX0_remove_103 : decode cX0_remove 103 = .ok (.getfield 53, 3) := by decide +kernel
theorem dX0_remove_106 : decode cX0_remove 106 = .ok (.iload_n 1, 1) := by decide +kernel
theorem dX0_remove_107 : decode cX0_remove 107 = .ok (.if_icmp .gt 14, 3) := by decide +kernel
theorem dX0_remove_110 : decode cX0_remove 110 = .ok (.iload_n 3, 1) := by decide +kernel
theorem dX0_remove_111 : decode cX0_remove 111 = .ok (.ifCond .eq 20, 3) := by decide +kernel
theorem dX0_remove_114 : decode cX0_remove 114 = .ok (.aload_n 0, 1) := by decide +kernel
theorem dX0_remove_115 : decode cX0_remove 115 = .ok (.getfield 53, 3) := by decide +kernel
theorem dX0_remove_118 : decode cX0_remove 118 = .ok (.ifCond .le 13, 3) := by decide +kernel
theorem dX0_remove_121 : decode cX0_remove 121 = .ok (.aload_n 0, 1) := by decide +kernel
theorem dX0_remove_122 : decode cX0_remove 122 = .ok (.dup, 1) := by decide +kernel
theorem dX0_remove_123 : decode cX0_remove 123 = .ok (.getfield 53, 3) := by decide +kernel
theorem dX0_remove_126 : decode cX0_remove 126 = .ok (.iconst 1, 1) := by decide +kernel
theorem dX0_remove_127 : decode cX0_remove 127 = .ok (.isub, 1) := by decide +kernel
theorem dX0_remove_128 : decode cX0_remove 128 = .ok (.putfield 53, 3) := by decide +kernel
theorem dX0_remove_131 : decode cX0_remove 131 = .ok (.return_, 1) := by decide +kernel
set_option maxRecDepth 20000 in
theorem ggX0_exchange_X1_changeAbout : GoodIn wsX0_exchange wsX1_changeAbout := goodIn_r _ [8, 9, 10, 11, 12, 7, 13, 25, 26, 27] (by decide +kernel) (by decide +kernel)
set_option maxRecDepth 20000 in
theorem gX0_exchange_X1_changeAbout : GoodIn wsX0_exchange (wsV RX0 79 RX1 yX1_changeAbout wsX1_changeAbout) := goodIn_app (goodIn_of _ (by decide +kernel)) ggX0_exchange_X1_changeAbout
theorem dX0_exchange_0 : decode cX0_exchange 0 = .ok (.aload_n 0, 1) := by decide +kernel
theorem dX0_exchange_1 : decode cX0_exchange 1 = .ok (.getfield 11, 3) := by decide +kernel
theorem dX0_exchange_4 : decode cX0_exchange 4 = .ok (.iload_n 1, 1) := by decide +kernel
theorem dX0_exchange_5 : decode cX0_exchange 5 = .ok (.aaload, 1) := by decide +kernel
theorem dX0_exchange_6 : decode cX0_exchange 6 = .ok (.astore_n 3, 1) := by decide +kernel
theorem dX0_exchange_7 : decode cX0_exchange 7 = .ok (.aload_n 0, 1) := by decide +kernel
theorem dX0_exchange_8 : decode cX0_exchange 8 = .ok (.getfield 11, 3) := by decide +kernel
theorem dX0_exchange_11 : decode cX0_exchange 11 = .ok (.iload_n 1, 1) := by decide +kernel
theorem dX0_exchange_12 : decode cX0_exchange 12 = .ok (.aload_n 0, 1) := by decide +kernel
theorem dX0_exchange_13 : decode cX0_exchange 13 = .ok (.getfield 11, 3) := by decide +kernel
theorem dX0_exchange_16 : decode cX0_exchange 16 = .ok (.iload_n 2, 1) := by decide +kernel
theorem dX0_exchange_17 : decode cX0_exchange 17 = .ok (.aaload, 1) := by decide +kernel
theorem dX0_exchange_18 : decode cX0_exchange 18 = .ok (.aastore, 1) := by decide +kernel
theorem dX0_exchange_19 : decode cX0_exchange 19 = .ok (.aload_n 0, 1) := by decide +kernel
theorem dX0_exchange_20 : decode cX0_exchange 20 = .ok (.getfield 11, 3) := by decide +kernel
theorem dX0_exchange_23 : decode cX0_exchange 23 = .ok (.iload_n 2, 1) := by decide +kernel
theorem dX0_exchange_24 : decode cX0_exchange 24 = .ok (.aload_n 3, 1) := by decide +kernel
theorem dX0_exchange_25 : decode cX0_exchange 25 = .ok (.aastore, 1) := by decide +kernel
theorem dX0_exchange_26 : decode cX0_exchange 26 = .ok (.iconst 0, 1) := by decide +kernel
theorem dX0_exchange_27 : decode cX0_exchange 27 = .ok (.istore 4, 2) := by decide +kernel
theorem dX0_exchange_29 : decode cX0_exchange 29 = .ok (.iload 4, 2) := by decide +kernel
theorem dX0_exchange_31 : decode cX0_exchange 31 = .ok (.aload_n 0, 1) := by decide +kernel
theorem dX0_exchange_32 : decode cX0_exchange 32 = .ok (.getfield 56, 3) := by decide +kernel
theorem dX0_exchange_35 : decode cX0_exchange 35 = .ok (.if_icmp .ge 21, 3) := by decide +kernel
theorem dX0_exchange_38 : decode cX0_exchange 38 = .ok (.aload_n 0, 1) := by decide +kernel
theorem dX0_exchange_39 : decode cX0_exchange 39 = .ok (.getfield 20, 3) := by decide +kernel
theorem dX0_exchange_42 : decode cX0_exchange 42 = .ok (.iload 4, 2) := by decide +kernel
theorem dX0_exchange_44 : decode cX0_exchange 44 = .ok (.aaload, 1) := by decide +kernel
theorem dX0_exchange_45 : decode cX0_exchange 45 = .ok (.iload_n 1, 1) := by decide +kernel
theorem dX0_exchange_46 : decode cX0_exchange 46 = .ok (.iload_n 2, 1) := by decide +kernel
theorem dX0_exchange_47 : decode cX0_exchange 47 = .ok (.invokevirtual 79, 3) := by decide +kernel
theorem dX0_exchange_50 : decode cX0_exchange 50 = .ok (.iinc 4 1, 3) := by decide +kernel
theorem dX0_exchange_53 : decode cX0_exchange 53 = .ok (.goto (-24), 3) := by decide +kernel
theorem dX0_exchange_56 : decode cX0_exchange 56 = .ok (.return_, 1) := by decide +kernel
theorem dX0_appendRoute_0 : decode cX0_appendRoute 0 = .ok (.aload_n 0, 1) := by decide +kernel
theorem dX0_appendRoute_1 : decode cX0_appendRoute 1 = .ok (.getfield 56, 3) := by decide +kernel
theorem dX0_appendRoute_4 : decode cX0_appendRoute 4 = .ok (.bipush 6, 2) := by decide +kernel
theorem dX0_appendRoute_6 : decode cX0_appendRoute 6 = .ok (.if_icmp .lt 6, 3) := by decide +kernel
theorem dX0_appendRoute_9 : decode cX0_appendRoute 9 = .ok (.ldc 83, 2) := by decide +kernel
theorem dX0_appendRoute_11 : decode cX0_appendRoute 11 = .ok (.ireturn, 1) := by decide +kernel
theorem dX0_appendRoute_12 : decode cX0_appendRoute 12 = .ok (.aload_n 0, 1) := by decide +kernel
theorem dX0_appendRoute_13 : decode cX0_appendRoute 13 = .ok (.getfield 20, 3) := by decide +kernel
theorem dX0_appendRoute_16 : decode cX0_appendRoute 16 = .ok (.aload_n 0, 1) := by decide +kernel
theorem dX0_appendRoute_17 : decode cX0_appendRoute 17 = .ok (.getfield 56, 3) := by decide +kernel
theorem dX0_appendRoute_20 : decode cX0_appendRoute 20 = .ok (.aaload, 1) := by decide +kernel
theorem dX0_appendRoute_21 : decode cX0_appendRoute 21 = .ok (.iload_n 1, 1) := by decide +kernel
theorem dX0_appendRoute_22 : decode cX0_appendRoute 22 = .ok (.putfield 84, 3) := by decide +kernel
theorem dX0_appendRoute_25 : decode cX0_appendRoute 25 = .ok (.aload_n 0, 1) := by decide +kernel
theorem dX0_appendRoute_26 : decode cX0_appendRoute 26 = .ok (.getfield 20, 3) := by decide +kernel
theorem dX0_appendRoute_29 : decode cX0_appendRoute 29 = .ok (.aload_n 0, 1) := by decide +kernel
theorem dX0_appendRoute_30 : decode cX0_appendRoute 30 = .ok (.getfield 56, 3) := by decide +kernel
theorem dX0_appendRoute_33 : decode cX0_appendRoute 33 = .ok (.aaload, 1) := by decide +kernel
theorem dX0_appendRoute_34 : decode cX0_appendRoute 34 = .ok (.iconst 0, 1) := by decide +kernel
theorem dX0_appendRoute_35 : decode cX0_appendRoute 35 = .ok (.putfield 86, 3) := by decide +kernel
theorem dX0_appendRoute_38 : decode cX0_appendRoute 38 = .ok (.aload_n 0, 1) := by decide +kernel
theorem dX0_appendRoute_39 : decode cX0_appendRoute 39 = .ok (.getfield 20, 3) := by decide +kernel
theorem dX0_appendRoute_42 : decode cX0_appendRoute 42 = .ok (.aload_n 0, 1) := by decide +kernel
theorem dX0_appendRoute_43 : decode cX0_appendRoute 43 = .ok (.getfield 56, 3) := by decide +kernel
theorem dX0_appendRoute_46 : decode cX0_appendRoute 46 = .ok (.aaload, 1) := by decide +kernel
theorem dX0_appendRoute_47 : decode cX0_appendRoute 47 = .ok (.iconst 0, 1) := by decide +kernel
theorem dX0_appendRoute_48 : decode cX0_appendRoute 48 = .ok (.putfield 87, 3) := by decide +kernel
theorem dX0_appendRoute_51 : decode cX0_appendRoute 51 = .ok (.aload_n 0, 1) := by decide +kernel
theorem dX0_appendRoute_52 : decode cX0_appendRoute 52 = .ok (.dup, 1) := by decide +kernel
theorem dX0_appendRoute_53 : decode cX0_appendRoute 53 = .ok (.getfield 56, 3) := by decide +kernel
theorem dX0_appendRoute_56 : decode cX0_appendRoute 56 = .ok (.iconst 1, 1) := by decide +kernel
theorem dX0_appendRoute_57 : decode cX0_appendRoute 57 = .ok (.iadd, 1) := by decide +kernel
theorem dX0_appendRoute_58 : decode cX0_appendRoute 58 = .ok (.putfield 56, 3) := by decide +kernel
theorem dX0_appendRoute_61 : decode cX0_appendRoute 61 = .ok (.aload_n 0, 1) := by decide +kernel
theorem dX0_appendRoute_62 : decode cX0_appendRoute 62 = .ok (.getfield 56, 3) := by decide +kernel
theorem dX0_appendRoute_65 : decode cX0_appendRoute 65 = .ok (.iconst 1, 1) := by decide +kernel
theorem dX0_appendRoute_66 : decode cX0_appendRoute 66 = .ok (.isub, 1) := by decide +kernel
theorem dX0_appendRoute_67 : decode cX0_appendRoute 67 = .ok (.ireturn, 1) := by decide +kernel
set_option maxRecDepth 20000 in
theorem ggX0_routesOf_X1_owns : GoodIn wsX0_routesOf wsX1_owns := goodIn_r _ [7, 8, 20, 21, 22] (by decide +kernel) (by decide +kernel)
set_option maxRecDepth 20000 in
theorem gX0_routesOf_X1_owns : GoodIn wsX0_routesOf (wsV RX0 88 RX1 yX1_owns wsX1_owns) := goodIn_app (goodIn_of _ (by decide +kernel)) ggX0_routesOf_X1_owns
theorem dX0_routesOf_0 : decode cX0_routesOf 0 = .ok (.iconst 0, 1) := by decide +kernel
theorem dX0_routesOf_1 : decode cX0_routesOf 1 = .ok (.istore_n 2, 1) := by decide +kernel
theorem dX0_routesOf_2 : decode cX0_routesOf 2 = .ok (.iconst 0, 1) := by decide +kernel
theorem dX0_routesOf_3 : decode cX0_routesOf 3 = .ok (.istore_n 3, 1) := by decide +kernel
theorem dX0_routesOf_4 : decode cX0_routesOf 4 = .ok (.iload_n 3, 1) := by decide +kernel
theorem dX0_routesOf_5 : decode cX0_routesOf 5 = .ok (.aload_n 0, 1) := by decide +kernel
theorem dX0_routesOf_6 : decode cX0_routesOf 6 = .ok (.getfield 56, 3) := by decide +kernel
theorem dX0_routesOf_9 : decode cX0_routesOf 9 = .ok (.if_icmp .ge 28, 3) := by decide +kernel
theorem dX0_routesOf_12 : decode cX0_routesOf 12 = .ok (.aload_n 0, 1) := by decide +kernel
theorem dX0_routesOf_13 : decode cX0_routesOf 13 = .ok (.getfield 20, 3) := by decide +kernel
theorem dX0_routesOf_16 : decode cX0_routesOf 16 = .ok (.iload_n 3, 1) := by decide +kernel
theorem dX0_routesOf_17 : decode cX0_routesOf 17 = .ok (.aaload, 1) := by decide +kernel
theorem dX0_routesOf_18 : decode cX0_routesOf 18 = .ok (.iload_n 1, 1) := by decide +kernel
theorem dX0_routesOf_19 : decode cX0_routesOf 19 = .ok (.invokevirtual 88, 3) := by decide +kernel
theorem dX0_routesOf_22 : decode cX0_routesOf 22 = .ok (.ifCond .eq 9, 3) := by decide +kernel
theorem dX0_routesOf_25 : decode cX0_routesOf 25 = .ok (.iload_n 2, 1) := by decide +kernel
theorem dX0_routesOf_26 : decode cX0_routesOf 26 = .ok (.iconst 1, 1) := by decide +kernel
theorem dX0_routesOf_27 : decode cX0_routesOf 27 = .ok (.iload_n 3, 1) := by decide +kernel
theorem dX0_routesOf_28 : decode cX0_routesOf 28 = .ok (.ishl, 1) := by decide +kernel
theorem dX0_routesOf_29 : decode cX0_routesOf 29 = .ok (.ior, 1) := by decide +kernel
theorem dX0_routesOf_30 : decode cX0_routesOf 30 = .ok (.istore_n 2, 1) := by decide +kernel
theorem dX0_routesOf_31 : decode cX0_routesOf 31 = .ok (.iinc 3 1, 3) := by decide +kernel
theorem dX0_routesOf_34 : decode cX0_routesOf 34 = .ok (.goto (-30), 3) := by decide +kernel
theorem dX0_routesOf_37 : decode cX0_routesOf 37 = .ok (.iload_n 2, 1) := by decide +kernel
theorem dX0_routesOf_38 : decode cX0_routesOf 38 = .ok (.ireturn, 1) := by decide +kernel
theorem dX0_tornRows_0 : decode cX0_tornRows 0 = .ok (.iconst 0, 1) := by decide +kernel
theorem dX0_tornRows_1 : decode cX0_tornRows 1 = .ok (.istore_n 1, 1) := by decide +kernel
theorem dX0_tornRows_2 : decode cX0_tornRows 2 = .ok (.iconst 0, 1) := by decide +kernel
theorem dX0_tornRows_3 : decode cX0_tornRows 3 = .ok (.istore_n 2, 1) := by decide +kernel
theorem dX0_tornRows_4 : decode cX0_tornRows 4 = .ok (.iload_n 2, 1) := by decide +kernel
theorem dX0_tornRows_5 : decode cX0_tornRows 5 = .ok (.aload_n 0, 1) := by decide +kernel
theorem dX0_tornRows_6 : decode cX0_tornRows 6 = .ok (.getfield 50, 3) := by decide +kernel
theorem dX0_tornRows_9 : decode cX0_tornRows 9 = .ok (.if_icmp .ge 27, 3) := by decide +kernel
theorem dX0_tornRows_12 : decode cX0_tornRows 12 = .ok (.aload_n 0, 1) := by decide +kernel
theorem dX0_tornRows_13 : decode cX0_tornRows 13 = .ok (.getfield 11, 3) := by decide +kernel
theorem dX0_tornRows_16 : decode cX0_tornRows 16 = .ok (.iload_n 2, 1) := by decide +kernel
theorem dX0_tornRows_17 : decode cX0_tornRows 17 = .ok (.aaload, 1) := by decide +kernel
theorem dX0_tornRows_18 : decode cX0_tornRows 18 = .ok (.getfield 92, 3) := by decide +kernel
theorem dX0_tornRows_21 : decode cX0_tornRows 21 = .ok (.ifCond .eq 9, 3) := by decide +kernel
theorem dX0_tornRows_24 : decode cX0_tornRows 24 = .ok (.iload_n 1, 1) := by decide +kernel
theorem dX0_tornRows_25 : decode cX0_tornRows 25 = .ok (.iconst 1, 1) := by decide +kernel
theorem dX0_tornRows_26 : decode cX0_tornRows 26 = .ok (.iload_n 2, 1) := by decide +kernel
theorem dX0_tornRows_27 : decode cX0_tornRows 27 = .ok (.ishl, 1) := by decide +kernel
theorem dX0_tornRows_28 : decode cX0_tornRows 28 = .ok (.ior, 1) := by decide +kernel
theorem dX0_tornRows_29 : decode cX0_tornRows 29 = .ok (.istore_n 1, 1) := by decide +kernel
theorem dX0_tornRows_30 : decode cX0_tornRows 30 = .ok (.iinc 2 1, 3) := by decide +kernel
theorem dX0_tornRows_33 : decode cX0_tornRows 33 = .ok (.goto (-29), 3) := by decide +kernel
theorem dX0_tornRows_36 : decode cX0_tornRows 36 = .ok (.iload_n 1, 1) := by decide +kernel
theorem dX0_tornRows_37 : decode cX0_tornRows 37 = .ok (.ireturn, 1) := by decide +kernel
theorem dX0_squeezed_0 : decode cX0_squeezed 0 = .ok (.aload_n 0, 1) := by decide +kernel
theorem dX0_squeezed_1 : decode cX0_squeezed 1 = .ok (.getfield 25, 3) := by decide +kernel
theorem dX0_squeezed_4 : decode cX0_squeezed 4 = .ok (.iconst 0, 1) := by decide +kernel
theorem dX0_squeezed_5 : decode cX0_squeezed 5 = .ok (.iaload, 1) := by decide +kernel
theorem dX0_squeezed_6 : decode cX0_squeezed 6 = .ok (.istore_n 2, 1) := by decide +kernel
theorem dX0_squeezed_7 : decode cX0_squeezed 7 = .ok (.iload_n 2, 1) := by decide +kernel
theorem dX0_squeezed_8 : decode cX0_squeezed 8 = .ok (.ifCond .le 17, 3) := by decide +kernel
theorem dX0_squeezed_11 : decode cX0_squeezed 11 = .ok (.iload_n 1, 1) := by decide +kernel
theorem dX0_squeezed_12 : decode cX0_squeezed 12 = .ok (.iload_n 2, 1) := by decide +kernel
theorem dX0_squeezed_13 : decode cX0_squeezed 13 = .ok (.if_icmp .le 12, 3) := by decide +kernel
theorem dX0_squeezed_16 : decode cX0_squeezed 16 = .ok (.iload_n 1, 1) := by decide +kernel
theorem dX0_squeezed_17 : decode cX0_squeezed 17 = .ok (.bipush 100, 2) := by decide +kernel
theorem dX0_squeezed_19 : decode cX0_squeezed 19 = .ok (.imul, 1) := by decide +kernel
theorem dX0_squeezed_20 : decode cX0_squeezed 20 = .ok (.iload_n 2, 1) := by decide +kernel
theorem dX0_squeezed_21 : decode cX0_squeezed 21 = .ok (.idiv, 1) := by decide +kernel
theorem dX0_squeezed_22 : decode cX0_squeezed 22 = .ok (.goto 5, 3) := by decide +kernel
theorem dX0_squeezed_25 : decode cX0_squeezed 25 = .ok (.bipush 100, 2) := by decide +kernel
theorem dX0_squeezed_27 : decode cX0_squeezed 27 = .ok (.ireturn, 1) := by decide +kernel
set_option maxRecDepth 20000 in
theorem ggX0_widest_X2_width : GoodIn wsX0_widest wsX2_width := goodIn_r _ [7, 8, 9, 10, 11, 12, 24, 25, 26, 27] (by decide +kernel) (by decide +kernel)
set_option maxRecDepth 20000 in
theorem gX0_widest_X2_width : GoodIn wsX0_widest (wsV RX0 96 RX2 yX2_width wsX2_width) := goodIn_app (goodIn_of _ (by decide +kernel)) ggX0_widest_X2_width
theorem dX0_widest_0 : decode cX0_widest 0 = .ok (.iconst 0, 1) := by decide +kernel
theorem dX0_widest_1 : decode cX0_widest 1 = .ok (.istore_n 1, 1) := by decide +kernel
theorem dX0_widest_2 : decode cX0_widest 2 = .ok (.iconst 1, 1) := by decide +kernel
theorem dX0_widest_3 : decode cX0_widest 3 = .ok (.istore_n 2, 1) := by decide +kernel
theorem dX0_widest_4 : decode cX0_widest 4 = .ok (.iload_n 2, 1) := by decide +kernel
theorem dX0_widest_5 : decode cX0_widest 5 = .ok (.aload_n 0, 1) := by decide +kernel
theorem dX0_widest_6 : decode cX0_widest 6 = .ok (.getfield 50, 3) := by decide +kernel
theorem dX0_widest_9 : decode cX0_widest 9 = .ok (.if_icmp .ge 32, 3) := by decide +kernel
theorem dX0_widest_12 : decode cX0_widest 12 = .ok (.aload_n 0, 1) := by decide +kernel
theorem dX0_widest_13 : decode cX0_widest 13 = .ok (.getfield 11, 3) := by decide +kernel
theorem dX0_widest_16 : decode cX0_widest 16 = .ok (.iload_n 2, 1) := by decide +kernel
theorem dX0_widest_17 : decode cX0_widest 17 = .ok (.aaload, 1) := by decide +kernel
theorem dX0_widest_18 : decode cX0_widest 18 = .ok (.invokevirtual 96, 3) := by decide +kernel
theorem dX0_widest_21 : decode cX0_widest 21 = .ok (.aload_n 0, 1) := by decide +kernel
theorem dX0_widest_22 : decode cX0_widest 22 = .ok (.getfield 11, 3) := by decide +kernel
theorem dX0_widest_25 : decode cX0_widest 25 = .ok (.iload_n 1, 1) := by decide +kernel
theorem dX0_widest_26 : decode cX0_widest 26 = .ok (.aaload, 1) := by decide +kernel
theorem dX0_widest_27 : decode cX0_widest 27 = .ok (.invokevirtual 96, 3) := by decide +kernel
theorem dX0_widest_30 : decode cX0_widest 30 = .ok (.if_icmp .le 5, 3) := by decide +kernel
theorem dX0_widest_33 : decode cX0_widest 33 = .ok (.iload_n 2, 1) := by decide +kernel
theorem dX0_widest_34 : decode cX0_widest 34 = .ok (.istore_n 1, 1) := by decide +kernel
theorem dX0_widest_35 : decode cX0_widest 35 = .ok (.iinc 2 1, 3) := by decide +kernel
theorem dX0_widest_38 : decode cX0_widest 38 = .ok (.goto (-34), 3) := by decide +kernel
theorem dX0_widest_41 : decode cX0_widest 41 = .ok (.iload_n 1, 1) := by decide +kernel
theorem dX0_widest_42 : decode cX0_widest 42 = .ok (.ireturn, 1) := by decide +kernel
theorem dX0_rowAfter_0 : decode cX0_rowAfter 0 = .ok (.iload_n 1, 1) := by decide +kernel
theorem dX0_rowAfter_1 : decode cX0_rowAfter 1 = .ok (.ifCond .le 12, 3) := by decide +kernel
theorem dX0_rowAfter_4 : decode cX0_rowAfter 4 = .ok (.aload_n 0, 1) := by decide +kernel
theorem dX0_rowAfter_5 : decode cX0_rowAfter 5 = .ok (.getfield 53, 3) := by decide +kernel
theorem dX0_rowAfter_8 : decode cX0_rowAfter 8 = .ok (.iload_n 2, 1) := by decide +kernel
theorem dX0_rowAfter_9 : decode cX0_rowAfter 9 = .ok (.iadd, 1) := by decide +kernel
theorem dX0_rowAfter_10 : decode cX0_rowAfter 10 = .ok (.goto 9, 3) := by decide +kernel
theorem dX0_rowAfter_13 : decode cX0_rowAfter 13 = .ok (.aload_n 0, 1) := by decide +kernel
theorem dX0_rowAfter_14 : decode cX0_rowAfter 14 = .ok (.getfield 53, 3) := by decide +kernel
theorem dX0_rowAfter_17 : decode cX0_rowAfter 17 = .ok (.iload_n 2, 1) := by decide +kernel
theorem dX0_rowAfter_18 : decode cX0_rowAfter 18 = .ok (.isub, 1) := by decide +kernel
theorem dX0_rowAfter_19 : decode cX0_rowAfter 19 = .ok (.ireturn, 1) := by decide +kernel
theorem dX0_isEnd_0 : decode cX0_isEnd 0 = .ok (.iload_n 1, 1) := by decide +kernel
theorem dX0_isEnd_1 : decode cX0_isEnd 1 = .ok (.ifCond .le 21, 3) := by decide +kernel
theorem dX0_isEnd_4 : decode cX0_isEnd 4 = .ok (.iload_n 2, 1) := by decide +kernel
theorem dX0_isEnd_5 : decode cX0_isEnd 5 = .ok (.aload_n 0, 1) := by decide +kernel
theorem dX0_isEnd_6 : decode cX0_isEnd 6 = .ok (.getfield 50, 3) := by decide +kernel
theorem dX0_isEnd_9 : decode cX0_isEnd 9 = .ok (.iconst 1, 1) := by decide +kernel
theorem dX0_isEnd_10 : decode cX0_isEnd 10 = .ok (.isub, 1) := by decide +kernel
theorem dX0_isEnd_11 : decode cX0_isEnd 11 = .ok (.if_icmp .lt 7, 3) := by decide +kernel
theorem dX0_isEnd_14 : decode cX0_isEnd 14 = .ok (.iconst 1, 1) := by decide +kernel
theorem dX0_isEnd_15 : decode cX0_isEnd 15 = .ok (.goto 16, 3) := by decide +kernel
theorem dX0_isEnd_18 : decode cX0_isEnd 18 = .ok (.iconst 0, 1) := by decide +kernel
theorem dX0_isEnd_19 : decode cX0_isEnd 19 = .ok (.goto 12, 3) := by decide +kernel
theorem dX0_isEnd_22 : decode cX0_isEnd 22 = .ok (.iload_n 2, 1) := by decide +kernel
theorem dX0_isEnd_23 : decode cX0_isEnd 23 = .ok (.ifCond .gt 7, 3) := by decide +kernel
theorem dX0_isEnd_26 : decode cX0_isEnd 26 = .ok (.iconst 1, 1) := by decide +kernel
theorem dX0_isEnd_27 : decode cX0_isEnd 27 = .ok (.goto 4, 3) := by decide +kernel
theorem dX0_isEnd_30 : decode cX0_isEnd 30 = .ok (.iconst 0, 1) := by decide +kernel
theorem dX0_isEnd_31 : decode cX0_isEnd 31 = .ok (.ireturn, 1) := by decide +kernel
set_option maxRecDepth 20000 in
theorem ggX0_stepsOf_X0_rowAfter : GoodIn wsX0_stepsOf wsX0_rowAfter := goodIn_r _ [11, 12, 18, 19, 20, 21, 22, 23, 24, 25, 26, 27, 28] (by decide +kernel) (by decide +kernel)
set_option maxRecDepth 20000 in
theorem gX0_stepsOf_X0_rowAfter : GoodIn wsX0_stepsOf (wsV RX0 106 RX0 yX0_rowAfter wsX0_rowAfter) := goodIn_app (goodIn_of _ (by decide +kernel)) ggX0_stepsOf_X0_rowAfter
set_option maxRecDepth 20000 in
theorem ggX0_stepsOf_X0_isEnd : GoodIn wsX0_stepsOf wsX0_isEnd := goodIn_r _ [16, 17, 18, 19, 20, 21, 22, 23, 24, 25, 26, 27, 28] (by decide +kernel) (by decide +kernel)
set_option maxRecDepth 20000 in
theorem gX0_stepsOf_X0_isEnd : GoodIn wsX0_stepsOf (wsV RX0 110 RX0 yX0_isEnd wsX0_isEnd) := goodIn_app (goodIn_of _ (by decide +kernel)) ggX0_stepsOf_X0_isEnd
theorem dX0_stepsOf_0 : decode cX0_stepsOf 0 = .ok (.iconst 0, 1) := by decide +kernel
theorem dX0_stepsOf_1 : decode cX0_stepsOf 1 = .ok (.istore_n 2, 1) := by decide +kernel
theorem dX0_stepsOf_2 : decode cX0_stepsOf 2 = .ok (.iconst 0, 1) := by decide +kernel
theorem dX0_stepsOf_3 : decode cX0_stepsOf 3 = .ok (.istore_n 3, 1) := by decide +kernel
theorem dX0_stepsOf_4 : decode cX0_stepsOf 4 = .ok (.iload_n 3, 1) := by decide +kernel
theorem dX0_stepsOf_5 : decode cX0_stepsOf 5 = .ok (.iload_n 1, 1) := by decide +kernel
theorem dX0_stepsOf_6 : decode cX0_stepsOf 6 = .ok (.invokestatic 100, 3) := by decide +kernel
theorem dX0_stepsOf_9 : decode cX0_stepsOf 9 = .ok (.if_icmp .ge 49, 3) := by decide +kernel
theorem dX0_stepsOf_12 : decode cX0_stepsOf 12 = .ok (.aload_n 0, 1) := by decide +kernel
theorem dX0_stepsOf_13 : decode cX0_stepsOf 13 = .ok (.iload_n 1, 1) := by decide +kernel
theorem dX0_stepsOf_14 : decode cX0_stepsOf 14 = .ok (.iload_n 2, 1) := by decide +kernel
theorem dX0_stepsOf_15 : decode cX0_stepsOf 15 = .ok (.invokevirtual 106, 3) := by decide +kernel
theorem dX0_stepsOf_18 : decode cX0_stepsOf 18 = .ok (.istore 4, 2) := by decide +kernel
theorem dX0_stepsOf_20 : decode cX0_stepsOf 20 = .ok (.aload_n 0, 1) := by decide +kernel
theorem dX0_stepsOf_21 : decode cX0_stepsOf 21 = .ok (.iload_n 1, 1) := by decide +kernel
theorem dX0_stepsOf_22 : decode cX0_stepsOf 22 = .ok (.iload 4, 2) := by decide +kernel
theorem dX0_stepsOf_24 : decode cX0_stepsOf 24 = .ok (.invokevirtual 110, 3) := by decide +kernel
theorem dX0_stepsOf_27 : decode cX0_stepsOf 27 = .ok (.ifCond .ne 20, 3) := by decide +kernel
theorem dX0_stepsOf_30 : decode cX0_stepsOf 30 = .ok (.iload_n 2, 1) := by decide +kernel
theorem dX0_stepsOf_31 : decode cX0_stepsOf 31 = .ok (.ifCond .le 18, 3) := by decide +kernel
theorem dX0_stepsOf_34 : decode cX0_stepsOf 34 = .ok (.aload_n 0, 1) := by decide +kernel
theorem dX0_stepsOf_35 : decode cX0_stepsOf 35 = .ok (.getfield 11, 3) := by decide +kernel
theorem dX0_stepsOf_38 : decode cX0_stepsOf 38 = .ok (.iload 4, 2) := by decide +kernel
theorem dX0_stepsOf_40 : decode cX0_stepsOf 40 = .ok (.aaload, 1) := by decide +kernel
theorem dX0_stepsOf_41 : decode cX0_stepsOf 41 = .ok (.getfield 92, 3) := by decide +kernel
theorem dX0_stepsOf_44 : decode cX0_stepsOf 44 = .ok (.ifCond .eq 5, 3) := by decide +kernel
theorem dX0_stepsOf_47 : decode cX0_stepsOf 47 = .ok (.iload_n 2, 1) := by decide +kernel
theorem dX0_stepsOf_48 : decode cX0_stepsOf 48 = .ok (.ireturn, 1) := by decide +kernel
theorem dX0_stepsOf_49 : decode cX0_stepsOf 49 = .ok (.iinc 2 1, 3) := by decide +kernel
theorem dX0_stepsOf_52 : decode cX0_stepsOf 52 = .ok (.iinc 3 1, 3) := by decide +kernel
theorem dX0_stepsOf_55 : decode cX0_stepsOf 55 = .ok (.goto (-51), 3) := by decide +kernel
theorem dX0_stepsOf_58 : decode cX0_stepsOf 58 = .ok (.iload_n 2, 1) := by decide +kernel
theorem dX0_stepsOf_59 : decode cX0_stepsOf 59 = .ok (.ireturn, 1) := by decide +kernel
theorem dX0_isSkipped_0 : decode cX0_isSkipped 0 = .ok (.iload_n 2, 1) := by decide +kernel
theorem dX0_isSkipped_1 : decode cX0_isSkipped 1 = .ok (.iconst 3, 1) := by decide +kernel
theorem dX0_isSkipped_2 : decode cX0_isSkipped 2 = .ok (.if_icmp .ne 14, 3) := by decide +kernel
theorem dX0_isSkipped_5 : decode cX0_isSkipped 5 = .ok (.iload_n 1, 1) := by decide +kernel
theorem dX0_isSkipped_6 : decode cX0_isSkipped 6 = .ok (.iconst 2, 1) := by decide +kernel
theorem dX0_isSkipped_7 : decode cX0_isSkipped 7 = .ok (.irem, 1) := by decide +kernel
theorem dX0_isSkipped_8 : decode cX0_isSkipped 8 = .ok (.iconst 1, 1) := by decide +kernel
theorem dX0_isSkipped_9 : decode cX0_isSkipped 9 = .ok (.if_icmp .ne 7, 3) := by decide +kernel
theorem dX0_isSkipped_12 : decode cX0_isSkipped 12 = .ok (.iconst 1, 1) := by decide +kernel
theorem dX0_isSkipped_13 : decode cX0_isSkipped 13 = .ok (.goto 4, 3) := by decide +kernel
theorem dX0_isSkipped_16 : decode cX0_isSkipped 16 = .ok (.iconst 0, 1) := by decide +kernel
theorem dX0_isSkipped_17 : decode cX0_isSkipped 17 = .ok (.ireturn, 1) := by decide +kernel
set_option maxRecDepth 20000 in
theorem ggX0_tearsAt_X0_isSkipped : GoodIn wsX0_tearsAt wsX0_isSkipped := goodIn_r _ [8] (by decide +kernel) (by decide +kernel)
set_option maxRecDepth 20000 in
theorem gX0_tearsAt_X0_isSkipped : GoodIn wsX0_tearsAt (wsV RX0 114 RX0 yX0_isSkipped wsX0_isSkipped) := goodIn_app (goodIn_of _ (by decide +kernel)) ggX0_tearsAt_X0_isSkipped
theorem dX0_tearsAt_0 : decode cX0_tearsAt 0 = .ok (.aload_n 0, 1) := by decide +kernel
theorem dX0_tearsAt_1 : decode cX0_tearsAt 1 = .ok (.iload_n 2, 1) := by decide +kernel
theorem dX0_tearsAt_2 : decode cX0_tearsAt 2 = .ok (.iload_n 3, 1) := by decide +kernel
theorem dX0_tearsAt_3 : decode cX0_tearsAt 3 = .ok (.invokevirtual 114, 3) := by decide +kernel
theorem dX0_tearsAt_6 : decode cX0_tearsAt 6 = .ok (.ifCond .ne 29, 3) := by decide +kernel
theorem dX0_tearsAt_9 : decode cX0_tearsAt 9 = .ok (.aload_n 1, 1) := by decide +kernel
theorem dX0_tearsAt_10 : decode cX0_tearsAt 10 = .ok (.getfield 92, 3) := by decide +kernel
theorem dX0_tearsAt_13 : decode cX0_tearsAt 13 = .ok (.ifCond .ne 22, 3) := by decide +kernel
theorem dX0_tearsAt_16 : decode cX0_tearsAt 16 = .ok (.aload_n 1, 1) := by decide +kernel
theorem dX0_tearsAt_17 : decode cX0_tearsAt 17 = .ok (.getfield 117, 3) := by decide +kernel
theorem dX0_tearsAt_20 : decode cX0_tearsAt 20 = .ok (.iload_n 3, 1) := by decide +kernel
theorem dX0_tearsAt_21 : decode cX0_tearsAt 21 = .ok (.iadd, 1) := by decide +kernel
theorem dX0_tearsAt_22 : decode cX0_tearsAt 22 = .ok (.aload_n 0, 1) := by decide +kernel
theorem dX0_tearsAt_23 : decode cX0_tearsAt 23 = .ok (.getfield 25, 3) := by decide +kernel
theorem dX0_tearsAt_26 : decode cX0_tearsAt 26 = .ok (.iconst 1, 1) := by decide +kernel
theorem dX0_tearsAt_27 : decode cX0_tearsAt 27 = .ok (.iaload, 1) := by decide +kernel
theorem dX0_tearsAt_28 : decode cX0_tearsAt 28 = .ok (.if_icmp .le 7, 3) := by decide +kernel
theorem dX0_tearsAt_31 : decode cX0_tearsAt 31 = .ok (.iconst 1, 1) := by decide +kernel
theorem dX0_tearsAt_32 : decode cX0_tearsAt 32 = .ok (.goto 4, 3) := by decide +kernel
theorem dX0_tearsAt_35 : decode cX0_tearsAt 35 = .ok (.iconst 0, 1) := by decide +kernel
theorem dX0_tearsAt_36 : decode cX0_tearsAt 36 = .ok (.ireturn, 1) := by decide +kernel
set_option maxRecDepth 20000 in
theorem ggX0_roll_X0_stepsOf : GoodIn wsX0_roll wsX0_stepsOf := goodIn_r _ [8, 9, 10, 11, 12, 1, 13, 14, 15, 16, 7, 17, 3, 18, 19, 20, 21, 22, 38, 39, 40, 41, 42, 43, 44, 45, 46, 47, 48, 49, 50, 51, 52] (by decide +kernel) (by decide +kernel)
set_option maxRecDepth 20000 in
theorem gX0_roll_X0_stepsOf : GoodIn wsX0_roll (wsV RX0 120 RX0 yX0_stepsOf wsX0_stepsOf) := goodIn_app (goodIn_of _ (by decide +kernel)) ggX0_roll_X0_stepsOf
set_option maxRecDepth 20000 in
theorem ggX0_roll_X0_rowAfter : GoodIn wsX0_roll wsX0_rowAfter := goodIn_r _ [17, 3, 38, 39, 40, 41, 42, 43, 44, 45, 46, 47, 48] (by decide +kernel) (by decide +kernel)
set_option maxRecDepth 20000 in
theorem gX0_roll_X0_rowAfter : GoodIn wsX0_roll (wsV RX0 106 RX0 yX0_rowAfter wsX0_rowAfter) := goodIn_app (goodIn_of _ (by decide +kernel)) ggX0_roll_X0_rowAfter
set_option maxRecDepth 20000 in
theorem ggX0_roll_X0_leave : GoodIn wsX0_roll wsX0_leave := goodIn_r _ [26, 13, 27, 28, 29, 30, 31, 7, 32, 33, 34, 35, 36, 37, 49, 50, 51, 52, 38, 39, 40, 41, 42, 43, 44, 45, 46, 47, 48] (by decide +kernel) (by decide +kernel)
set_option maxRecDepth 20000 in
theorem gX0_roll_X0_leave : GoodIn wsX0_roll (wsV RX0 127 RX0 yX0_leave wsX0_leave) := goodIn_app (goodIn_of _ (by decide +kernel)) ggX0_roll_X0_leave
theorem dX0_roll_0 : decode cX0_roll 0 = .ok (.aload_n 0, 1) := by decide +kernel
theorem dX0_roll_1 : decode cX0_roll 1 = .ok (.iload_n 1, 1) := by decide +kernel
theorem dX0_roll_2 : decode cX0_roll 2 = .ok (.invokevirtual 120, 3) := by decide +kernel
theorem dX0_roll_5 : decode cX0_roll 5 = .ok (.istore_n 3, 1) := by decide +kernel
theorem dX0_roll_6 : decode cX0_roll 6 = .ok (.iconst 0, 1) := by decide +kernel
theorem dX0_roll_7 : decode cX0_roll 7 = .ok (.istore 4, 2) := by decide +kernel
theorem dX0_roll_9 : decode cX0_roll 9 = .ok (.iload 4, 2) := by decide +kernel
theorem dX0_roll_11 : decode cX0_roll 11 = .ok (.iload_n 3, 1) := by decide +kernel
theorem dX0_roll_12 : decode cX0_roll 12 = .ok (.if_icmp .ge 28, 3) := by decide +kernel
theorem dX0_roll_15 : decode cX0_roll 15 = .ok (.aload_n 0, 1) := by decide +kernel
theorem dX0_roll_16 : decode cX0_roll 16 = .ok (.aload_n 0, 1) := by decide +kernel
theorem dX0_roll_17 : decode cX0_roll 17 = .ok (.getfield 11, 3) := by decide +kernel
theorem dX0_roll_20 : decode cX0_roll 20 = .ok (.aload_n 0, 1) := by decide +kernel
theorem dX0_roll_21 : decode cX0_roll 21 = .ok (.iload_n 1, 1) := by decide +kernel
theorem dX0_roll_22 : decode cX0_roll 22 = .ok (.iload 4, 2) := by decide +kernel
theorem dX0_roll_24 : decode cX0_roll 24 = .ok (.invokevirtual 106, 3) := by decide +kernel
theorem dX0_roll_27 : decode cX0_roll 27 = .ok (.aaload, 1) := by decide +kernel
theorem dX0_roll_28 : decode cX0_roll 28 = .ok (.iload 4, 2) := by decide +kernel
theorem dX0_roll_30 : decode cX0_roll 30 = .ok (.iload_n 2, 1) := by decide +kernel
theorem dX0_roll_31 : decode cX0_roll 31 = .ok (.invokevirtual 127, 3) := by decide +kernel
theorem dX0_roll_34 : decode cX0_roll 34 = .ok (.iinc 4 1, 3) := by decide +kernel
theorem dX0_roll_37 : decode cX0_roll 37 = .ok (.goto (-28), 3) := by decide +kernel
theorem dX0_roll_40 : decode cX0_roll 40 = .ok (.aload_n 0, 1) := by decide +kernel
theorem dX0_roll_41 : decode cX0_roll 41 = .ok (.dup, 1) := by decide +kernel
theorem dX0_roll_42 : decode cX0_roll 42 = .ok (.getfield 62, 3) := by decide +kernel
theorem dX0_roll_45 : decode cX0_roll 45 = .ok (.iload_n 3, 1) := by decide +kernel
theorem dX0_roll_46 : decode cX0_roll 46 = .ok (.iadd, 1) := by decide +kernel
theorem dX0_roll_47 : decode cX0_roll 47 = .ok (.putfield 62, 3) := by decide +kernel
theorem dX0_roll_50 : decode cX0_roll 50 = .ok (.aload_n 0, 1) := by decide +kernel
theorem dX0_roll_51 : decode cX0_roll 51 = .ok (.aload_n 0, 1) := by decide +kernel
theorem dX0_roll_52 : decode cX0_roll 52 = .ok (.iload_n 1, 1) := by decide +kernel
theorem dX0_roll_53 : decode cX0_roll 53 = .ok (.iload_n 3, 1) := by decide +kernel
theorem dX0_roll_54 : decode cX0_roll 54 = .ok (.invokevirtual 106, 3) := by decide +kernel
theorem dX0_roll_57 : decode cX0_roll 57 = .ok (.putfield 53, 3) := by decide +kernel
theorem dX0_roll_60 : decode cX0_roll 60 = .ok (.return_, 1) := by decide +kernel
set_option maxRecDepth 20000 in
theorem ggX0_leave_X0_tearsAt : GoodIn wsX0_leave wsX0_tearsAt := goodIn_r _ [8, 1, 3, 9, 10, 11, 12, 7, 13, 14, 15, 16, 17, 18, 19, 20, 21, 22, 23, 24, 25, 26, 27, 28] (by decide +kernel) (by decide +kernel)
set_option maxRecDepth 20000 in
theorem gX0_leave_X0_tearsAt : GoodIn wsX0_leave (wsV RX0 123 RX0 yX0_tearsAt wsX0_tearsAt) := goodIn_app (goodIn_of _ (by decide +kernel)) ggX0_leave_X0_tearsAt
set_option maxRecDepth 20000 in
theorem ggX0_leave_X0_isSkipped : GoodIn wsX0_leave wsX0_isSkipped := goodIn_r _ [13] (by decide +kernel) (by decide +kernel)
set_option maxRecDepth 20000 in
theorem gX0_leave_X0_isSkipped : GoodIn wsX0_leave (wsV RX0 114 RX0 yX0_isSkipped wsX0_isSkipped) := goodIn_app (goodIn_of _ (by decide +kernel)) ggX0_leave_X0_isSkipped
theorem dX0_leave_0 : decode cX0_leave 0 = .ok (.aload_n 0, 1) := by decide +kernel
theorem dX0_leave_1 : decode cX0_leave 1 = .ok (.aload_n 1, 1) := by decide +kernel
theorem dX0_leave_2 : decode cX0_leave 2 = .ok (.iload_n 2, 1) := by decide +kernel
theorem dX0_leave_3 : decode cX0_leave 3 = .ok (.iload_n 3, 1) := by decide +kernel
theorem dX0_leave_4 : decode cX0_leave 4 = .ok (.invokevirtual 123, 3) := by decide +kernel
theorem dX0_leave_7 : decode cX0_leave 7 = .ok (.ifCond .eq 18, 3) := by decide +kernel
theorem dX0_leave_10 : decode cX0_leave 10 = .ok (.aload_n 1, 1) := by decide +kernel
theorem dX0_leave_11 : decode cX0_leave 11 = .ok (.iconst 1, 1) := by decide +kernel
theorem dX0_leave_12 : decode cX0_leave 12 = .ok (.putfield 92, 3) := by decide +kernel
theorem dX0_leave_15 : decode cX0_leave 15 = .ok (.aload_n 0, 1) := by decide +kernel
theorem dX0_leave_16 : decode cX0_leave 16 = .ok (.dup, 1) := by decide +kernel
theorem dX0_leave_17 : decode cX0_leave 17 = .ok (.getfield 59, 3) := by decide +kernel
theorem dX0_leave_20 : decode cX0_leave 20 = .ok (.iconst 1, 1) := by decide +kernel
theorem dX0_leave_21 : decode cX0_leave 21 = .ok (.iadd, 1) := by decide +kernel
theorem dX0_leave_22 : decode cX0_leave 22 = .ok (.putfield 59, 3) := by decide +kernel
theorem dX0_leave_25 : decode cX0_leave 25 = .ok (.aload_n 0, 1) := by decide +kernel
theorem dX0_leave_26 : decode cX0_leave 26 = .ok (.iload_n 2, 1) := by decide +kernel
theorem dX0_leave_27 : decode cX0_leave 27 = .ok (.iload_n 3, 1) := by decide +kernel
theorem dX0_leave_28 : decode cX0_leave 28 = .ok (.invokevirtual 114, 3) := by decide +kernel
theorem dX0_leave_31 : decode cX0_leave 31 = .ok (.ifCond .ne 13, 3) := by decide +kernel
theorem dX0_leave_34 : decode cX0_leave 34 = .ok (.aload_n 1, 1) := by decide +kernel
theorem dX0_leave_35 : decode cX0_leave 35 = .ok (.dup, 1) := by decide +kernel
theorem dX0_leave_36 : decode cX0_leave 36 = .ok (.getfield 117, 3) := by decide +kernel
theorem dX0_leave_39 : decode cX0_leave 39 = .ok (.iload_n 3, 1) := by decide +kernel
theorem dX0_leave_40 : decode cX0_leave 40 = .ok (.iadd, 1) := by decide +kernel
theorem dX0_leave_41 : decode cX0_leave 41 = .ok (.putfield 117, 3) := by decide +kernel
theorem dX0_leave_44 : decode cX0_leave 44 = .ok (.return_, 1) := by decide +kernel
set_option maxRecDepth 20000 in
theorem ggX0_halt_X0_wrongOf : GoodIn wsX0_halt wsX0_wrongOf := goodIn_r _ [12, 13, 14, 4, 5, 15, 16, 17, 11, 18, 19, 20, 21, 22, 23, 24, 25, 26, 27, 28, 29, 30, 31, 32, 33, 34, 35, 36, 37, 38, 39, 40, 41, 42, 43, 44, 45, 46, 47, 48, 49, 50, 51, 52, 53, 54, 55, 56, 57, 58, 59, 60, 61, 62, 63, 64, 65, 66, 67, 68, 69, 70, 71, 72, 73, 74, 75, 76, 77, 78, 79, 80, 81, 82, 83, 84, 85, 86, 87, 88, 89, 90, 91, 92, 93, 94, 95, 96, 97, 98, 99, 100, 101, 102, 103, 104, 105, 106, 107, 108, 109, 110, 111, 112, 113, 117, 118, 119, 120, 114, 115, 116] (by decide +kernel) (by decide +kernel)
set_option maxRecDepth 20000 in
theorem gX0_halt_X0_wrongOf : GoodIn wsX0_halt (wsV RX0 131 RX0 yX0_wrongOf wsX0_wrongOf) := goodIn_app (goodIn_of _ (by decide +kernel)) ggX0_halt_X0_wrongOf
set_option maxRecDepth 20000 in
theorem ggX0_halt_X0_hasRoute : GoodIn wsX0_halt wsX0_hasRoute := goodIn_r _ [83, 84, 103, 104, 105, 106, 107, 108, 109, 110, 111, 112, 113] (by decide +kernel) (by decide +kernel)
set_option maxRecDepth 20000 in
theorem gX0_halt_X0_hasRoute : GoodIn wsX0_halt (wsV RX0 134 RX0 yX0_hasRoute wsX0_hasRoute) := goodIn_app (goodIn_of _ (by decide +kernel)) ggX0_halt_X0_hasRoute
theorem dX0_halt_0 : decode cX0_halt 0 = .ok (.aload_n 0, 1) := by decide +kernel
theorem dX0_halt_1 : decode cX0_halt 1 = .ok (.aload_n 0, 1) := by decide +kernel
theorem dX0_halt_2 : decode cX0_halt 2 = .ok (.getfield 53, 3) := by decide +kernel
theorem dX0_halt_5 : decode cX0_halt 5 = .ok (.invokevirtual 131, 3) := by decide +kernel
theorem dX0_halt_8 : decode cX0_halt 8 = .ok (.istore_n 1, 1) := by decide +kernel
theorem dX0_halt_9 : decode cX0_halt 9 = .ok (.iload_n 1, 1) := by decide +kernel
theorem dX0_halt_10 : decode cX0_halt 10 = .ok (.ifCond .ne 7, 3) := by decide +kernel
theorem dX0_halt_13 : decode cX0_halt 13 = .ok (.iconst 1, 1) := by decide +kernel
theorem dX0_halt_14 : decode cX0_halt 14 = .ok (.goto 4, 3) := by decide +kernel
theorem dX0_halt_17 : decode cX0_halt 17 = .ok (.iconst 0, 1) := by decide +kernel
theorem dX0_halt_18 : decode cX0_halt 18 = .ok (.istore_n 2, 1) := by decide +kernel
theorem dX0_halt_19 : decode cX0_halt 19 = .ok (.aload_n 0, 1) := by decide +kernel
theorem dX0_halt_20 : decode cX0_halt 20 = .ok (.dup, 1) := by decide +kernel
theorem dX0_halt_21 : decode cX0_halt 21 = .ok (.getfield 65, 3) := by decide +kernel
theorem dX0_halt_24 : decode cX0_halt 24 = .ok (.iconst 1, 1) := by decide +kernel
theorem dX0_halt_25 : decode cX0_halt 25 = .ok (.iadd, 1) := by decide +kernel
theorem dX0_halt_26 : decode cX0_halt 26 = .ok (.putfield 65, 3) := by decide +kernel
theorem dX0_halt_29 : decode cX0_halt 29 = .ok (.aload_n 0, 1) := by decide +kernel
theorem dX0_halt_30 : decode cX0_halt 30 = .ok (.dup, 1) := by decide +kernel
theorem dX0_halt_31 : decode cX0_halt 31 = .ok (.getfield 68, 3) := by decide +kernel
theorem dX0_halt_34 : decode cX0_halt 34 = .ok (.iload_n 2, 1) := by decide +kernel
theorem dX0_halt_35 : decode cX0_halt 35 = .ok (.iadd, 1) := by decide +kernel
theorem dX0_halt_36 : decode cX0_halt 36 = .ok (.putfield 68, 3) := by decide +kernel
theorem dX0_halt_39 : decode cX0_halt 39 = .ok (.aload_n 0, 1) := by decide +kernel
theorem dX0_halt_40 : decode cX0_halt 40 = .ok (.aload_n 0, 1) := by decide +kernel
theorem dX0_halt_41 : decode cX0_halt 41 = .ok (.getfield 38, 3) := by decide +kernel
theorem dX0_halt_44 : decode cX0_halt 44 = .ok (.invokevirtual 134, 3) := by decide +kernel
theorem dX0_halt_47 : decode cX0_halt 47 = .ok (.ifCond .eq 39, 3) := by decide +kernel
theorem dX0_halt_50 : decode cX0_halt 50 = .ok (.aload_n 0, 1) := by decide +kernel
theorem dX0_halt_51 : decode cX0_halt 51 = .ok (.getfield 20, 3) := by decide +kernel
theorem dX0_halt_54 : decode cX0_halt 54 = .ok (.aload_n 0, 1) := by decide +kernel
theorem dX0_halt_55 : decode cX0_halt 55 = .ok (.getfield 38, 3) := by decide +kernel
theorem dX0_halt_58 : decode cX0_halt 58 = .ok (.aaload, 1) := by decide +kernel
theorem dX0_halt_59 : decode cX0_halt 59 = .ok (.dup, 1) := by decide +kernel
theorem dX0_halt_60 : decode cX0_halt 60 = .ok (.getfield 86, 3) := by decide +kernel
theorem dX0_halt_63 : decode cX0_halt 63 = .ok (.iconst 1, 1) := by decide +kernel
theorem dX0_halt_64 : decode cX0_halt 64 = .ok (.iadd, 1) := by decide +kernel
theorem dX0_halt_65 : decode cX0_halt 65 = .ok (.putfield 86, 3) := by decide +kernel
theorem dX0_halt_68 : decode cX0_halt 68 = .ok (.aload_n 0, 1) := by decide +kernel
theorem dX0_halt_69 : decode cX0_halt 69 = .ok (.getfield 20, 3) := by decide +kernel
theorem dX0_halt_72 : decode cX0_halt 72 = .ok (.aload_n 0, 1) := by decide +kernel
theorem dX0_halt_73 : decode cX0_halt 73 = .ok (.getfield 38, 3) := by decide +kernel
theorem dX0_halt_76 : decode cX0_halt 76 = .ok (.aaload, 1) := by decide +kernel
theorem dX0_halt_77 : decode cX0_halt 77 = .ok (.dup, 1) := by decide +kernel
theorem dX0_halt_78 : decode cX0_halt 78 = .ok (.getfield 87, 3) := by decide +kernel
theorem dX0_halt_81 : decode cX0_halt 81 = .ok (.iload_n 2, 1) := by decide +kernel
theorem dX0_halt_82 : decode cX0_halt 82 = .ok (.iadd, 1) := by decide +kernel
theorem dX0_halt_83 : decode cX0_halt 83 = .ok (.putfield 87, 3) := by decide +kernel
theorem dX0_halt_86 : decode cX0_halt 86 = .ok (.iload_n 1, 1) := by decide +kernel
theorem dX0_halt_87 : decode cX0_halt 87 = .ok (.ireturn, 1) := by decide +kernel
set_option maxRecDepth 20000 in
theorem ggX0_wrongOf_X0_hasRow : GoodIn wsX0_wrongOf wsX0_hasRow := goodIn_r _ [9, 10, 94, 95, 96, 97, 98, 99, 100, 101, 102, 103, 104] (by decide +kernel) (by decide +kernel)
set_option maxRecDepth 20000 in
theorem gX0_wrongOf_X0_hasRow : GoodIn wsX0_wrongOf (wsV RX0 137 RX0 yX0_hasRow wsX0_hasRow) := goodIn_app (goodIn_of _ (by decide +kernel)) ggX0_wrongOf_X0_hasRow
set_option maxRecDepth 20000 in
theorem ggX0_wrongOf_X2_kind : GoodIn wsX0_wrongOf wsX2_kind := goodIn_r _ [15, 16, 17, 18, 19, 14, 20, 21, 22, 23, 24, 25, 26, 27, 28, 29, 30, 31, 32, 33, 34, 35, 36, 37, 38, 39, 40, 41, 42, 43, 44, 45, 46, 47, 48, 49, 50, 51, 52, 53, 54, 55, 56, 57, 58, 59, 60, 61, 62, 63, 64, 65, 66, 67, 68, 69, 70, 105, 106, 107, 108] (by decide +kernel) (by decide +kernel)
set_option maxRecDepth 20000 in
theorem gX0_wrongOf_X2_kind : GoodIn wsX0_wrongOf (wsV RX0 140 RX2 yX2_kind wsX2_kind) := goodIn_app (goodIn_of _ (by decide +kernel)) ggX0_wrongOf_X2_kind
set_option maxRecDepth 20000 in
theorem ggX0_wrongOf_X0_hasRoute : GoodIn wsX0_wrongOf wsX0_hasRoute := goodIn_r _ [74, 75, 94, 95, 96, 97, 98, 99, 100, 101, 102, 103, 104] (by decide +kernel) (by decide +kernel)
set_option maxRecDepth 20000 in
theorem gX0_wrongOf_X0_hasRoute : GoodIn wsX0_wrongOf (wsV RX0 134 RX0 yX0_hasRoute wsX0_hasRoute) := goodIn_app (goodIn_of _ (by decide +kernel)) ggX0_wrongOf_X0_hasRoute
set_option maxRecDepth 20000 in
theorem ggX0_wrongOf_X1_owns : GoodIn wsX0_wrongOf wsX1_owns := goodIn_r _ [80, 81, 109, 110, 111] (by decide +kernel) (by decide +kernel)
set_option maxRecDepth 20000 in
theorem gX0_wrongOf_X1_owns : GoodIn wsX0_wrongOf (wsV RX0 88 RX1 yX1_owns wsX1_owns) := goodIn_app (goodIn_of _ (by decide +kernel)) ggX0_wrongOf_X1_owns
set_option maxRecDepth 20000 in
theorem ggX0_wrongOf_X2_width : GoodIn wsX0_wrongOf wsX2_width := goodIn_r _ [85, 16, 21, 86, 87, 88, 105, 106, 107, 108] (by decide +kernel) (by decide +kernel)
set_option maxRecDepth 20000 in
theorem gX0_wrongOf_X2_width : GoodIn wsX0_wrongOf (wsV RX0 96 RX2 yX2_width wsX2_width) := goodIn_app (goodIn_of _ (by decide +kernel)) ggX0_wrongOf_X2_width
set_option maxRecDepth 20000 in
theorem ggX0_wrongOf_X0_squeezed : GoodIn wsX0_wrongOf wsX0_squeezed := goodIn_r _ [92, 93, 94, 95, 96, 97, 98, 99, 100, 101, 102, 103, 104] (by decide +kernel) (by decide +kernel)
set_option maxRecDepth 20000 in
theorem gX0_wrongOf_X0_squeezed : GoodIn wsX0_wrongOf (wsV RX0 143 RX0 yX0_squeezed wsX0_squeezed) := goodIn_app (goodIn_of _ (by decide +kernel)) ggX0_wrongOf_X0_squeezed
theorem dX0_wrongOf_0 : decode cX0_wrongOf 0 = .ok (.aload_n 0, 1) := by decide +kernel
theorem dX0_wrongOf_1 : decode cX0_wrongOf 1 = .ok (.iload_n 1, 1) := by decide +kernel
theorem dX0_wrongOf_2 : decode cX0_wrongOf 2 = .ok (.invokevirtual 137, 3) := by decide +kernel
theorem dX0_wrongOf_5 : decode cX0_wrongOf 5 = .ok (.ifCond .ne 5, 3) := by decide +kernel
theorem dX0_wrongOf_8 : decode cX0_wrongOf 8 = .ok (.iconst 1, 1) := by decide +kernel
theorem dX0_wrongOf_9 : decode cX0_wrongOf 9 = .ok (.ireturn, 1) := by decide +kernel
theorem dX0_wrongOf_10 : decode cX0_wrongOf 10 = .ok (.aload_n 0, 1) := by decide +kernel
theorem dX0_wrongOf_11 : decode cX0_wrongOf 11 = .ok (.getfield 11, 3) := by decide +kernel
theorem dX0_wrongOf_14 : decode cX0_wrongOf 14 = .ok (.iload_n 1, 1) := by decide +kernel
theorem dX0_wrongOf_15 : decode cX0_wrongOf 15 = .ok (.aaload, 1) := by decide +kernel
theorem dX0_wrongOf_16 : decode cX0_wrongOf 16 = .ok (.getfield 92, 3) := by decide +kernel
theorem dX0_wrongOf_19 : decode cX0_wrongOf 19 = .ok (.ifCond .eq 5, 3) := by decide +kernel
theorem dX0_wrongOf_22 : decode cX0_wrongOf 22 = .ok (.iconst 2, 1) := by decide +kernel
theorem dX0_wrongOf_23 : decode cX0_wrongOf 23 = .ok (.ireturn, 1) := by decide +kernel
theorem dX0_wrongOf_24 : decode cX0_wrongOf 24 = .ok (.aload_n 0, 1) := by decide +kernel
theorem dX0_wrongOf_25 : decode cX0_wrongOf 25 = .ok (.getfield 11, 3) := by decide +kernel
theorem dX0_wrongOf_28 : decode cX0_wrongOf 28 = .ok (.iload_n 1, 1) := by decide +kernel
theorem dX0_wrongOf_29 : decode cX0_wrongOf 29 = .ok (.aaload, 1) := by decide +kernel
theorem dX0_wrongOf_30 : decode cX0_wrongOf 30 = .ok (.invokevirtual 140, 3) := by decide +kernel
theorem dX0_wrongOf_33 : decode cX0_wrongOf 33 = .ok (.istore_n 2, 1) := by decide +kernel
theorem dX0_wrongOf_34 : decode cX0_wrongOf 34 = .ok (.aload_n 0, 1) := by decide +kernel
theorem dX0_wrongOf_35 : decode cX0_wrongOf 35 = .ok (.aload_n 0, 1) := by decide +kernel
theorem dX0_wrongOf_36 : decode cX0_wrongOf 36 = .ok (.getfield 38, 3) := by decide +kernel
theorem dX0_wrongOf_39 : decode cX0_wrongOf 39 = .ok (.invokevirtual 134, 3) := by decide +kernel
theorem dX0_wrongOf_42 : decode cX0_wrongOf 42 = .ok (.ifCond .ne 15, 3) := by decide +kernel
theorem dX0_wrongOf_45 : decode cX0_wrongOf 45 = .ok (.iload_n 2, 1) := by decide +kernel
theorem dX0_wrongOf_46 : decode cX0_wrongOf 46 = .ok (.iconst 1, 1) := by decide +kernel
theorem dX0_wrongOf_47 : decode cX0_wrongOf 47 = .ok (.if_icmp .eq 33, 3) := by decide +kernel
theorem dX0_wrongOf_50 : decode cX0_wrongOf 50 = .ok (.iload_n 2, 1) := by decide +kernel
theorem dX0_wrongOf_51 : decode cX0_wrongOf 51 = .ok (.iconst 2, 1) := by decide +kernel
theorem dX0_wrongOf_52 : decode cX0_wrongOf 52 = .ok (.if_icmp .eq 28, 3) := by decide +kernel
theorem dX0_wrongOf_55 : decode cX0_wrongOf 55 = .ok (.iconst 3, 1) := by decide +kernel
theorem dX0_wrongOf_56 : decode cX0_wrongOf 56 = .ok (.ireturn, 1) := by decide +kernel
theorem dX0_wrongOf_57 : decode cX0_wrongOf 57 = .ok (.aload_n 0, 1) := by decide +kernel
theorem dX0_wrongOf_58 : decode cX0_wrongOf 58 = .ok (.getfield 20, 3) := by decide +kernel
theorem dX0_wrongOf_61 : decode cX0_wrongOf 61 = .ok (.aload_n 0, 1) := by decide +kernel
theorem dX0_wrongOf_62 : decode cX0_wrongOf 62 = .ok (.getfield 38, 3) := by decide +kernel
theorem dX0_wrongOf_65 : decode cX0_wrongOf 65 = .ok (.aaload, 1) := by decide +kernel
theorem dX0_wrongOf_66 : decode cX0_wrongOf 66 = .ok (.iload_n 1, 1) := by decide +kernel
theorem dX0_wrongOf_67 : decode cX0_wrongOf 67 = .ok (.invokevirtual 88, 3) := by decide +kernel
theorem dX0_wrongOf_70 : decode cX0_wrongOf 70 = .ok (.ifCond .ne 10, 3) := by decide +kernel
theorem dX0_wrongOf_73 : decode cX0_wrongOf 73 = .ok (.iload_n 2, 1) := by decide +kernel
theorem dX0_wrongOf_74 : decode cX0_wrongOf 74 = .ok (.iconst 2, 1) := by decide +kernel
theorem dX0_wrongOf_75 : decode cX0_wrongOf 75 = .ok (.if_icmp .eq 5, 3) := by decide +kernel
theorem dX0_wrongOf_78 : decode cX0_wrongOf 78 = .ok (.iconst 4, 1) := by decide +kernel
theorem dX0_wrongOf_79 : decode cX0_wrongOf 79 = .ok (.ireturn, 1) := by decide +kernel
theorem dX0_wrongOf_80 : decode cX0_wrongOf 80 = .ok (.aload_n 0, 1) := by decide +kernel
theorem dX0_wrongOf_81 : decode cX0_wrongOf 81 = .ok (.aload_n 0, 1) := by decide +kernel
theorem dX0_wrongOf_82 : decode cX0_wrongOf 82 = .ok (.getfield 11, 3) := by decide +kernel
theorem dX0_wrongOf_85 : decode cX0_wrongOf 85 = .ok (.iload_n 1, 1) := by decide +kernel
theorem dX0_wrongOf_86 : decode cX0_wrongOf 86 = .ok (.aaload, 1) := by decide +kernel
theorem dX0_wrongOf_87 : decode cX0_wrongOf 87 = .ok (.invokevirtual 96, 3) := by decide +kernel
theorem dX0_wrongOf_90 : decode cX0_wrongOf 90 = .ok (.invokevirtual 143, 3) := by decide +kernel
theorem dX0_wrongOf_93 : decode cX0_wrongOf 93 = .ok (.bipush 120, 2) := by decide +kernel
theorem dX0_wrongOf_95 : decode cX0_wrongOf 95 = .ok (.if_icmp .le 7, 3) := by decide +kernel
theorem dX0_wrongOf_98 : decode cX0_wrongOf 98 = .ok (.iconst 5, 1) := by decide +kernel
theorem dX0_wrongOf_99 : decode cX0_wrongOf 99 = .ok (.goto 4, 3) := by decide +kernel
theorem dX0_wrongOf_102 : decode cX0_wrongOf 102 = .ok (.iconst 0, 1) := by decide +kernel
theorem dX0_wrongOf_103 : decode cX0_wrongOf 103 = .ok (.ireturn, 1) := by decide +kernel
theorem dX1_init_0 : decode cX1_init 0 = .ok (.aload_n 0, 1) := by decide +kernel
theorem dX1_init_1 : decode cX1_init 1 = .ok (.invokespecial 1, 3) := by decide +kernel
theorem dX1_init_4 : decode cX1_init 4 = .ok (.return_, 1) := by decide +kernel
theorem dX1_copyRoute_0 : decode cX1_copyRoute 0 = .ok (.aload_n 0, 1) := by decide +kernel
theorem dX1_copyRoute_1 : decode cX1_copyRoute 1 = .ok (.aload_n 1, 1) := by decide +kernel
theorem dX1_copyRoute_2 : decode cX1_copyRoute 2 = .ok (.getfield 7, 3) := by decide +kernel
theorem dX1_copyRoute_5 : decode cX1_copyRoute 5 = .ok (.putfield 7, 3) := by decide +kernel
theorem dX1_copyRoute_8 : decode cX1_copyRoute 8 = .ok (.aload_n 0, 1) := by decide +kernel
theorem dX1_copyRoute_9 : decode cX1_copyRoute 9 = .ok (.aload_n 1, 1) := by decide +kernel
theorem dX1_copyRoute_10 : decode cX1_copyRoute 10 = .ok (.getfield 13, 3) := by decide +kernel
theorem dX1_copyRoute_13 : decode cX1_copyRoute 13 = .ok (.putfield 13, 3) := by decide +kernel
theorem dX1_copyRoute_16 : decode cX1_copyRoute 16 = .ok (.aload_n 0, 1) := by decide +kernel
theorem dX1_copyRoute_17 : decode cX1_copyRoute 17 = .ok (.aload_n 1, 1) := by decide +kernel
theorem dX1_copyRoute_18 : decode cX1_copyRoute 18 = .ok (.getfield 16, 3) := by decide +kernel
theorem dX1_copyRoute_21 : decode cX1_copyRoute 21 = .ok (.putfield 16, 3) := by decide +kernel
theorem dX1_copyRoute_24 : decode cX1_copyRoute 24 = .ok (.return_, 1) := by decide +kernel
theorem dX1_owns_0 : decode cX1_owns 0 = .ok (.aload_n 0, 1) := by decide +kernel
theorem dX1_owns_1 : decode cX1_owns 1 = .ok (.getfield 7, 3) := by decide +kernel
theorem dX1_owns_4 : decode cX1_owns 4 = .ok (.iload_n 1, 1) := by decide +kernel
theorem dX1_owns_5 : decode cX1_owns 5 = .ok (.ishr, 1) := by decide +kernel
theorem dX1_owns_6 : decode cX1_owns 6 = .ok (.iconst 1, 1) := by decide +kernel
theorem dX1_owns_7 : decode cX1_owns 7 = .ok (.iand, 1) := by decide +kernel
theorem dX1_owns_8 : decode cX1_owns 8 = .ok (.iconst 1, 1) := by decide +kernel
theorem dX1_owns_9 : decode cX1_owns 9 = .ok (.if_icmp .ne 7, 3) := by decide +kernel
theorem dX1_owns_12 : decode cX1_owns 12 = .ok (.iconst 1, 1) := by decide +kernel
theorem dX1_owns_13 : decode cX1_owns 13 = .ok (.goto 4, 3) := by decide +kernel
theorem dX1_owns_16 : decode cX1_owns 16 = .ok (.iconst 0, 1) := by decide +kernel
theorem dX1_owns_17 : decode cX1_owns 17 = .ok (.ireturn, 1) := by decide +kernel
theorem dX1_forget_0 : decode cX1_forget 0 = .ok (.aload_n 0, 1) := by decide +kernel
theorem dX1_forget_1 : decode cX1_forget 1 = .ok (.getfield 7, 3) := by decide +kernel
theorem dX1_forget_4 : decode cX1_forget 4 = .ok (.iconst 1, 1) := by decide +kernel
theorem dX1_forget_5 : decode cX1_forget 5 = .ok (.iload_n 1, 1) := by decide +kernel
theorem dX1_forget_6 : decode cX1_forget 6 = .ok (.ishl, 1) := by decide +kernel
theorem dX1_forget_7 : decode cX1_forget 7 = .ok (.iconst 1, 1) := by decide +kernel
theorem dX1_forget_8 : decode cX1_forget 8 = .ok (.isub, 1) := by decide +kernel
theorem dX1_forget_9 : decode cX1_forget 9 = .ok (.iand, 1) := by decide +kernel
theorem dX1_forget_10 : decode cX1_forget 10 = .ok (.istore_n 2, 1) := by decide +kernel
theorem dX1_forget_11 : decode cX1_forget 11 = .ok (.aload_n 0, 1) := by decide +kernel
theorem dX1_forget_12 : decode cX1_forget 12 = .ok (.getfield 7, 3) := by decide +kernel
theorem dX1_forget_15 : decode cX1_forget 15 = .ok (.iload_n 1, 1) := by decide +kernel
theorem dX1_forget_16 : decode cX1_forget 16 = .ok (.iconst 1, 1) := by decide +kernel
theorem dX1_forget_17 : decode cX1_forget 17 = .ok (.iadd, 1) := by decide +kernel
theorem dX1_forget_18 : decode cX1_forget 18 = .ok (.ishr, 1) := by decide +kernel
theorem dX1_forget_19 : decode cX1_forget 19 = .ok (.iload_n 1, 1) := by decide +kernel
theorem dX1_forget_20 : decode cX1_forget 20 = .ok (.ishl, 1) := by decide +kernel
theorem dX1_forget_21 : decode cX1_forget 21 = .ok (.istore_n 3, 1) := by decide +kernel
theorem dX1_forget_22 : decode cX1_forget 22 = .ok (.aload_n 0, 1) := by decide +kernel
theorem dX1_forget_23 : decode cX1_forget 23 = .ok (.iload_n 2, 1) := by decide +kernel
theorem dX1_forget_24 : decode cX1_forget 24 = .ok (.iload_n 3, 1) := by decide +kernel
theorem dX1_forget_25 : decode cX1_forget 25 = .ok (.ior, 1) := by decide +kernel
theorem dX1_forget_26 : decode cX1_forget 26 = .ok (.putfield 7, 3) := by decide +kernel
theorem dX1_forget_29 : decode cX1_forget 29 = .ok (.return_, 1) := by decide +kernel
set_option maxRecDepth 20000 in
theorem ggX1_changeAbout_X1_owns : GoodIn wsX1_changeAbout wsX1_owns := goodIn_r _ [6, 1, 7, 8, 9] (by decide +kernel) (by decide +kernel)
set_option maxRecDepth 20000 in
theorem gX1_changeAbout_X1_owns : GoodIn wsX1_changeAbout (wsV RX1 19 RX1 yX1_owns wsX1_owns) := goodIn_app (goodIn_of _ (by decide +kernel)) ggX1_changeAbout_X1_owns
theorem dX1_changeAbout_0 : decode cX1_changeAbout 0 = .ok (.aload_n 0, 1) := by decide +kernel
theorem dX1_changeAbout_1 : decode cX1_changeAbout 1 = .ok (.iload_n 1, 1) := by decide +kernel
theorem dX1_changeAbout_2 : decode cX1_changeAbout 2 = .ok (.invokevirtual 19, 3) := by decide +kernel
theorem dX1_changeAbout_5 : decode cX1_changeAbout 5 = .ok (.aload_n 0, 1) := by decide +kernel
theorem dX1_changeAbout_6 : decode cX1_changeAbout 6 = .ok (.iload_n 2, 1) := by decide +kernel
theorem dX1_changeAbout_7 : decode cX1_changeAbout 7 = .ok (.invokevirtual 19, 3) := by decide +kernel
theorem dX1_changeAbout_10 : decode cX1_changeAbout 10 = .ok (.if_icmp .eq 19, 3) := by decide +kernel
theorem dX1_changeAbout_13 : decode cX1_changeAbout 13 = .ok (.aload_n 0, 1) := by decide +kernel
theorem dX1_changeAbout_14 : decode cX1_changeAbout 14 = .ok (.aload_n 0, 1) := by decide +kernel
theorem dX1_changeAbout_15 : decode cX1_changeAbout 15 = .ok (.getfield 7, 3) := by decide +kernel
theorem dX1_changeAbout_18 : decode cX1_changeAbout 18 = .ok (.iconst 1, 1) := by decide +kernel
theorem dX1_changeAbout_19 : decode cX1_changeAbout 19 = .ok (.iload_n 1, 1) := by decide +kernel
theorem dX1_changeAbout_20 : decode cX1_changeAbout 20 = .ok (.ishl, 1) := by decide +kernel
theorem dX1_changeAbout_21 : decode cX1_changeAbout 21 = .ok (.ixor, 1) := by decide +kernel
theorem dX1_changeAbout_22 : decode cX1_changeAbout 22 = .ok (.iconst 1, 1) := by decide +kernel
theorem dX1_changeAbout_23 : decode cX1_changeAbout 23 = .ok (.iload_n 2, 1) := by decide +kernel
theorem dX1_changeAbout_24 : decode cX1_changeAbout 24 = .ok (.ishl, 1) := by decide +kernel
theorem dX1_changeAbout_25 : decode cX1_changeAbout 25 = .ok (.ixor, 1) := by decide +kernel
theorem dX1_changeAbout_26 : decode cX1_changeAbout 26 = .ok (.putfield 7, 3) := by decide +kernel
theorem dX1_changeAbout_29 : decode cX1_changeAbout 29 = .ok (.return_, 1) := by decide +kernel
theorem dX2_init_0 : decode cX2_init 0 = .ok (.aload_n 0, 1) := by decide +kernel
theorem dX2_init_1 : decode cX2_init 1 = .ok (.invokespecial 3, 3) := by decide +kernel
theorem dX2_init_4 : decode cX2_init 4 = .ok (.aload_n 0, 1) := by decide +kernel
theorem dX2_init_5 : decode cX2_init 5 = .ok (.bipush 14, 2) := by decide +kernel
theorem dX2_init_7 : decode cX2_init 7 = .ok (.newarray .char, 2) := by decide +kernel
theorem dX2_init_9 : decode cX2_init 9 = .ok (.putfield 9, 3) := by decide +kernel
theorem dX2_init_12 : decode cX2_init 12 = .ok (.return_, 1) := by decide +kernel
theorem dX2_copyRow_0 : decode cX2_copyRow 0 = .ok (.aload_n 1, 1) := by decide +kernel
theorem dX2_copyRow_1 : decode cX2_copyRow 1 = .ok (.getfield 9, 3) := by decide +kernel
theorem dX2_copyRow_4 : decode cX2_copyRow 4 = .ok (.iconst 0, 1) := by decide +kernel
theorem dX2_copyRow_5 : decode cX2_copyRow 5 = .ok (.aload_n 0, 1) := by decide +kernel
theorem dX2_copyRow_6 : decode cX2_copyRow 6 = .ok (.getfield 9, 3) := by decide +kernel
theorem dX2_copyRow_9 : decode cX2_copyRow 9 = .ok (.iconst 0, 1) := by decide +kernel
theorem dX2_copyRow_10 : decode cX2_copyRow 10 = .ok (.bipush 14, 2) := by decide +kernel
theorem dX2_copyRow_12 : decode cX2_copyRow 12 = .ok (.invokestatic 15, 3) := by decide +kernel
theorem dX2_copyRow_15 : decode cX2_copyRow 15 = .ok (.aload_n 0, 1) := by decide +kernel
theorem dX2_copyRow_16 : decode cX2_copyRow 16 = .ok (.aload_n 1, 1) := by decide +kernel
theorem dX2_copyRow_17 : decode cX2_copyRow 17 = .ok (.getfield 21, 3) := by decide +kernel
theorem dX2_copyRow_20 : decode cX2_copyRow 20 = .ok (.putfield 21, 3) := by decide +kernel
theorem dX2_copyRow_23 : decode cX2_copyRow 23 = .ok (.aload_n 0, 1) := by decide +kernel
theorem dX2_copyRow_24 : decode cX2_copyRow 24 = .ok (.aload_n 1, 1) := by decide +kernel
theorem dX2_copyRow_25 : decode cX2_copyRow 25 = .ok (.getfield 25, 3) := by decide +kernel
theorem dX2_copyRow_28 : decode cX2_copyRow 28 = .ok (.putfield 25, 3) := by decide +kernel
theorem dX2_copyRow_31 : decode cX2_copyRow 31 = .ok (.aload_n 0, 1) := by decide +kernel
theorem dX2_copyRow_32 : decode cX2_copyRow 32 = .ok (.aload_n 1, 1) := by decide +kernel
theorem dX2_copyRow_33 : decode cX2_copyRow 33 = .ok (.getfield 28, 3) := by decide +kernel
theorem dX2_copyRow_36 : decode cX2_copyRow 36 = .ok (.putfield 28, 3) := by decide +kernel
theorem dX2_copyRow_39 : decode cX2_copyRow 39 = .ok (.return_, 1) := by decide +kernel
theorem dX2_begin_0 : decode cX2_begin 0 = .ok (.aload_n 0, 1) := by decide +kernel
theorem dX2_begin_1 : decode cX2_begin 1 = .ok (.iconst 0, 1) := by decide +kernel
theorem dX2_begin_2 : decode cX2_begin 2 = .ok (.putfield 21, 3) := by decide +kernel
theorem dX2_begin_5 : decode cX2_begin 5 = .ok (.iload_n 2, 1) := by decide +kernel
theorem dX2_begin_6 : decode cX2_begin 6 = .ok (.istore 4, 2) := by decide +kernel
theorem dX2_begin_8 : decode cX2_begin 8 = .ok (.iload 4, 2) := by decide +kernel
theorem dX2_begin_10 : decode cX2_begin 10 = .ok (.iload_n 3, 1) := by decide +kernel
theorem dX2_begin_11 : decode cX2_begin 11 = .ok (.if_icmp .ge 44, 3) := by decide +kernel
theorem dX2_begin_14 : decode cX2_begin 14 = .ok (.aload_n 0, 1) := by decide +kernel
theorem dX2_begin_15 : decode cX2_begin 15 = .ok (.getfield 21, 3) := by decide +kernel
theorem dX2_begin_18 : decode cX2_begin 18 = .ok (.bipush 14, 2) := by decide +kernel
theorem dX2_begin_20 : decode cX2_begin 20 = .ok (.if_icmp .ge 35, 3) := by decide +kernel
theorem dX2_begin_23 : decode cX2_begin 23 = .ok (.aload_n 0, 1) := by decide +kernel
theorem dX2_begin_24 : decode cX2_begin 24 = .ok (.getfield 9, 3) := by decide +kernel
theorem dX2_begin_27 : decode cX2_begin 27 = .ok (.aload_n 0, 1) := by decide +kernel
theorem dX2_begin_28 : decode cX2_begin 28 = .ok (.getfield 21, 3) := by decide +kernel
theorem dX2_begin_31 : decode cX2_begin 31 = .ok (.aload_n 1, 1) := by decide +kernel
theorem dX2_begin_32 : decode cX2_begin 32 = .ok (.getfield 32, 3) := by decide +kernel
theorem dX2_begin_35 : decode cX2_begin 35 = .ok (.iload 4, 2) := by decide +kernel
theorem dX2_begin_37 : decode cX2_begin 37 = .ok (.caload, 1) := by decide +kernel
theorem dX2_begin_38 : decode cX2_begin 38 = .ok (.castore, 1) := by decide +kernel
theorem dX2_begin_39 : decode cX2_begin 39 = .ok (.aload_n 0, 1) := by decide +kernel
theorem dX2_begin_40 : decode cX2_begin 40 = .ok (.dup, 1) := by decide +kernel
theorem dX2_begin_41 : decode cX2_begin 41 = .ok (.getfield 21, 3) := by decide +kernel
theorem dX2_begin_44 : decode cX2_begin 44 = .ok (.iconst 1, 1) := by decide +kernel
theorem dX2_begin_45 : decode cX2_begin 45 = .ok (.iadd, 1) := by decide +kernel
theorem dX2_begin_46 : decode cX2_begin 46 = .ok (.putfield 21, 3) := by decide +kernel
theorem dX2_begin_49 : decode cX2_begin 49 = .ok (.iinc 4 1, 3) := by decide +kernel
theorem dX2_begin_52 : decode cX2_begin 52 = .ok (.goto (-44), 3) := by decide +kernel
theorem dX2_begin_55 : decode cX2_begin 55 = .ok (.aload_n 0, 1) := by decide +kernel
theorem dX2_begin_56 : decode cX2_begin 56 = .ok (.iconst 0, 1) := by decide +kernel
theorem dX2_begin_57 : decode cX2_begin 57 = .ok (.putfield 25, 3) := by decide +kernel
theorem dX2_begin_60 : decode cX2_begin 60 = .ok (.aload_n 0, 1) := by decide +kernel
theorem dX2_begin_61 : decode cX2_begin 61 = .ok (.iconst 0, 1) := by decide +kernel
theorem dX2_begin_62 : decode cX2_begin 62 = .ok (.putfield 28, 3) := by decide +kernel
theorem dX2_begin_65 : decode cX2_begin 65 = .ok (.return_, 1) := by decide +kernel
theorem dX2_patch_0 : decode cX2_patch 0 = .ok (.aload_n 0, 1) := by decide +kernel
theorem dX2_patch_1 : decode cX2_patch 1 = .ok (.aload_n 0, 1) := by decide +kernel
theorem dX2_patch_2 : decode cX2_patch 2 = .ok (.getfield 25, 3) := by decide +kernel
theorem dX2_patch_5 : decode cX2_patch 5 = .ok (.iconst 2, 1) := by decide +kernel
theorem dX2_patch_6 : decode cX2_patch 6 = .ok (.idiv, 1) := by decide +kernel
theorem dX2_patch_7 : decode cX2_patch 7 = .ok (.putfield 25, 3) := by decide +kernel
theorem dX2_patch_10 : decode cX2_patch 10 = .ok (.aload_n 0, 1) := by decide +kernel
theorem dX2_patch_11 : decode cX2_patch 11 = .ok (.iconst 0, 1) := by decide +kernel
theorem dX2_patch_12 : decode cX2_patch 12 = .ok (.putfield 28, 3) := by decide +kernel
theorem dX2_patch_15 : decode cX2_patch 15 = .ok (.return_, 1) := by decide +kernel
set_option maxRecDepth 20000 in
theorem ggX2_width_X4_letterWidth : GoodIn wsX2_width wsX4_letterWidth := goodIn_r _ [5] (by decide +kernel) (by decide +kernel)
set_option maxRecDepth 20000 in
theorem gX2_width_X4_letterWidth_n37 : GoodIn wsX2_width (wsX4_letterWidth) := ggX2_width_X4_letterWidth
theorem dX2_width_0 : decode cX2_width 0 = .ok (.iconst 0, 1) := by decide +kernel
theorem dX2_width_1 : decode cX2_width 1 = .ok (.istore_n 1, 1) := by decide +kernel
theorem dX2_width_2 : decode cX2_width 2 = .ok (.iconst 0, 1) := by decide +kernel
theorem dX2_width_3 : decode cX2_width 3 = .ok (.istore_n 2, 1) := by decide +kernel
theorem dX2_width_4 : decode cX2_width 4 = .ok (.iload_n 2, 1) := by decide +kernel
theorem dX2_width_5 : decode cX2_width 5 = .ok (.aload_n 0, 1) := by decide +kernel
theorem dX2_width_6 : decode cX2_width 6 = .ok (.getfield 21, 3) := by decide +kernel
theorem dX2_width_9 : decode cX2_width 9 = .ok (.if_icmp .ge 21, 3) := by decide +kernel
theorem dX2_width_12 : decode cX2_width 12 = .ok (.iload_n 1, 1) := by decide +kernel
theorem dX2_width_13 : decode cX2_width 13 = .ok (.aload_n 0, 1) := by decide +kernel
theorem dX2_width_14 : decode cX2_width 14 = .ok (.getfield 9, 3) := by decide +kernel
theorem dX2_width_17 : decode cX2_width 17 = .ok (.iload_n 2, 1) := by decide +kernel
theorem dX2_width_18 : decode cX2_width 18 = .ok (.caload, 1) := by decide +kernel
theorem dX2_width_19 : decode cX2_width 19 = .ok (.invokestatic 37, 3) := by decide +kernel
theorem dX2_width_22 : decode cX2_width 22 = .ok (.iadd, 1) := by decide +kernel
theorem dX2_width_23 : decode cX2_width 23 = .ok (.istore_n 1, 1) := by decide +kernel
theorem dX2_width_24 : decode cX2_width 24 = .ok (.iinc 2 1, 3) := by decide +kernel
theorem dX2_width_27 : decode cX2_width 27 = .ok (.goto (-23), 3) := by decide +kernel
theorem dX2_width_30 : decode cX2_width 30 = .ok (.iload_n 1, 1) := by decide +kernel
theorem dX2_width_31 : decode cX2_width 31 = .ok (.ireturn, 1) := by decide +kernel
set_option maxRecDepth 20000 in
theorem ggX2_kind_X2_isNamed : GoodIn wsX2_kind wsX2_isNamed := goodIn_r _ [6, 1, 7, 8, 9, 10, 11, 12, 13, 14, 15, 16, 17, 18, 19, 20, 21, 22, 23, 24, 25, 26, 27, 28, 29, 30, 31, 32, 33, 34, 35, 36, 37, 38, 39, 40, 41, 42, 43, 44, 45, 46, 47, 48, 49, 50, 51, 52, 53, 54, 55, 56, 57, 58, 59, 60] (by decide +kernel) (by decide +kernel)
set_option maxRecDepth 20000 in
theorem gX2_kind_X2_isNamed : GoodIn wsX2_kind (wsV RX2 43 RX2 yX2_isNamed wsX2_isNamed) := goodIn_app (goodIn_of _ (by decide +kernel)) ggX2_kind_X2_isNamed
theorem dX2_kind_0 : decode cX2_kind 0 = .ok (.aload_n 0, 1) := by decide +kernel
theorem dX2_kind_1 : decode cX2_kind 1 = .ok (.getfield 21, 3) := by decide +kernel
theorem dX2_kind_4 : decode cX2_kind 4 = .ok (.iconst 1, 1) := by decide +kernel
theorem dX2_kind_5 : decode cX2_kind 5 = .ok (.if_icmp .ne 5, 3) := by decide +kernel
theorem dX2_kind_8 : decode cX2_kind 8 = .ok (.iconst 4, 1) := by decide +kernel
theorem dX2_kind_9 : decode cX2_kind 9 = .ok (.ireturn, 1) := by decide +kernel
theorem dX2_kind_10 : decode cX2_kind 10 = .ok (.aload_n 0, 1) := by decide +kernel
theorem dX2_kind_11 : decode cX2_kind 11 = .ok (.ldc 41, 2) := by decide +kernel
theorem dX2_kind_13 : decode cX2_kind 13 = .ok (.invokevirtual 43, 3) := by decide +kernel
theorem dX2_kind_16 : decode cX2_kind 16 = .ok (.ifCond .eq 5, 3) := by decide +kernel
theorem dX2_kind_19 : decode cX2_kind 19 = .ok (.iconst 1, 1) := by decide +kernel
theorem dX2_kind_20 : decode cX2_kind 20 = .ok (.ireturn, 1) := by decide +kernel
theorem dX2_kind_21 : decode cX2_kind 21 = .ok (.aload_n 0, 1) := by decide +kernel
theorem dX2_kind_22 : decode cX2_kind 22 = .ok (.ldc 47, 2) := by decide +kernel
theorem dX2_kind_24 : decode cX2_kind 24 = .ok (.invokevirtual 43, 3) := by decide +kernel
theorem dX2_kind_27 : decode cX2_kind 27 = .ok (.ifCond .eq 5, 3) := by decide +kernel
theorem dX2_kind_30 : decode cX2_kind 30 = .ok (.iconst 2, 1) := by decide +kernel
theorem dX2_kind_31 : decode cX2_kind 31 = .ok (.ireturn, 1) := by decide +kernel
theorem dX2_kind_32 : decode cX2_kind 32 = .ok (.aload_n 0, 1) := by decide +kernel
theorem dX2_kind_33 : decode cX2_kind 33 = .ok (.ldc 49, 2) := by decide +kernel
theorem dX2_kind_35 : decode cX2_kind 35 = .ok (.invokevirtual 43, 3) := by decide +kernel
theorem dX2_kind_38 : decode cX2_kind 38 = .ok (.ifCond .eq 7, 3) := by decide +kernel
theorem dX2_kind_41 : decode cX2_kind 41 = .ok (.iconst 3, 1) := by decide +kernel
theorem dX2_kind_42 : decode cX2_kind 42 = .ok (.goto 4, 3) := by decide +kernel
theorem dX2_kind_45 : decode cX2_kind 45 = .ok (.iconst 0, 1) := by decide +kernel
theorem dX2_kind_46 : decode cX2_kind 46 = .ok (.ireturn, 1) := by decide +kernel
set_option maxRecDepth 20000 in
theorem ggX2_isNamed_J0_length_8abf5 : GoodIn wsX2_isNamed wsJ0_length_8abf5 := goodIn_r _ [7, 8, 9, 10, 11, 6, 12, 13, 14] (by decide +kernel) (by decide +kernel)
set_option maxRecDepth 20000 in
theorem gX2_isNamed_J0_length_8abf5 : GoodIn wsX2_isNamed (wsV RX2 51 RJ0 yJ0_length_8abf5 wsJ0_length_8abf5) := goodIn_app (goodIn_of _ (by decide +kernel)) ggX2_isNamed_J0_length_8abf5
set_option maxRecDepth 20000 in
theorem ggX2_isNamed_J0_charAt_5068e : GoodIn wsX2_isNamed wsJ0_charAt_5068e := goodIn_r _ [18, 8, 19, 20, 21, 6, 22, 13, 14, 23, 24, 25, 26, 27, 28, 29, 30, 31, 32, 33, 34, 35, 36, 37, 38, 39, 40, 41, 42, 43, 44, 45, 46, 47, 48, 49, 50, 51] (by decide +kernel) (by decide +kernel)
set_option maxRecDepth 20000 in
theorem gX2_isNamed_J0_charAt_5068e : GoodIn wsX2_isNamed (wsV RX2 56 RJ0 yJ0_charAt_5068e wsJ0_charAt_5068e) := goodIn_app (goodIn_of _ (by decide +kernel)) ggX2_isNamed_J0_charAt_5068e
theorem dX2_isNamed_0 : decode cX2_isNamed 0 = .ok (.aload_n 0, 1) := by decide +kernel
theorem dX2_isNamed_1 : decode cX2_isNamed 1 = .ok (.getfield 21, 3) := by decide +kernel
theorem dX2_isNamed_4 : decode cX2_isNamed 4 = .ok (.aload_n 1, 1) := by decide +kernel
theorem dX2_isNamed_5 : decode cX2_isNamed 5 = .ok (.invokevirtual 51, 3) := by decide +kernel
theorem dX2_isNamed_8 : decode cX2_isNamed 8 = .ok (.if_icmp .eq 5, 3) := by decide +kernel
theorem dX2_isNamed_11 : decode cX2_isNamed 11 = .ok (.iconst 0, 1) := by decide +kernel
theorem dX2_isNamed_12 : decode cX2_isNamed 12 = .ok (.ireturn, 1) := by decide +kernel
theorem dX2_isNamed_13 : decode cX2_isNamed 13 = .ok (.iconst 0, 1) := by decide +kernel
theorem dX2_isNamed_14 : decode cX2_isNamed 14 = .ok (.istore_n 2, 1) := by decide +kernel
theorem dX2_isNamed_15 : decode cX2_isNamed 15 = .ok (.iload_n 2, 1) := by decide +kernel
theorem dX2_isNamed_16 : decode cX2_isNamed 16 = .ok (.aload_n 0, 1) := by decide +kernel
theorem dX2_isNamed_17 : decode cX2_isNamed 17 = .ok (.getfield 21, 3) := by decide +kernel
theorem dX2_isNamed_20 : decode cX2_isNamed 20 = .ok (.if_icmp .ge 25, 3) := by decide +kernel
theorem dX2_isNamed_23 : decode cX2_isNamed 23 = .ok (.aload_n 0, 1) := by decide +kernel
theorem dX2_isNamed_24 : decode cX2_isNamed 24 = .ok (.getfield 9, 3) := by decide +kernel
theorem dX2_isNamed_27 : decode cX2_isNamed 27 = .ok (.iload_n 2, 1) := by decide +kernel
theorem dX2_isNamed_28 : decode cX2_isNamed 28 = .ok (.caload, 1) := by decide +kernel
theorem dX2_isNamed_29 : decode cX2_isNamed 29 = .ok (.aload_n 1, 1) := by decide +kernel
theorem dX2_isNamed_30 : decode cX2_isNamed 30 = .ok (.iload_n 2, 1) := by decide +kernel
theorem dX2_isNamed_31 : decode cX2_isNamed 31 = .ok (.invokevirtual 56, 3) := by decide +kernel
theorem dX2_isNamed_34 : decode cX2_isNamed 34 = .ok (.if_icmp .eq 5, 3) := by decide +kernel
theorem dX2_isNamed_37 : decode cX2_isNamed 37 = .ok (.iconst 0, 1) := by decide +kernel
theorem dX2_isNamed_38 : decode cX2_isNamed 38 = .ok (.ireturn, 1) := by decide +kernel
theorem dX2_isNamed_39 : decode cX2_isNamed 39 = .ok (.iinc 2 1, 3) := by decide +kernel
theorem dX2_isNamed_42 : decode cX2_isNamed 42 = .ok (.goto (-27), 3) := by decide +kernel
theorem dX2_isNamed_45 : decode cX2_isNamed 45 = .ok (.iconst 1, 1) := by decide +kernel
theorem dX2_isNamed_46 : decode cX2_isNamed 46 = .ok (.ireturn, 1) := by decide +kernel
theorem dX3_init_0 : decode cX3_init 0 = .ok (.aload_n 0, 1) := by decide +kernel
theorem dX3_init_1 : decode cX3_init 1 = .ok (.invokespecial 3, 3) := by decide +kernel
theorem dX3_init_4 : decode cX3_init 4 = .ok (.aload_n 0, 1) := by decide +kernel
theorem dX3_init_5 : decode cX3_init 5 = .ok (.bipush 60, 2) := by decide +kernel
theorem dX3_init_7 : decode cX3_init 7 = .ok (.newarray .char, 2) := by decide +kernel
theorem dX3_init_9 : decode cX3_init 9 = .ok (.putfield 9, 3) := by decide +kernel
theorem dX3_init_12 : decode cX3_init 12 = .ok (.aload_n 0, 1) := by decide +kernel
theorem dX3_init_13 : decode cX3_init 13 = .ok (.iconst 0, 1) := by decide +kernel
theorem dX3_init_14 : decode cX3_init 14 = .ok (.putfield 15, 3) := by decide +kernel
theorem dX3_init_17 : decode cX3_init 17 = .ok (.return_, 1) := by decide +kernel
theorem dX3_append_0 : decode cX3_append 0 = .ok (.aload_n 0, 1) := by decide +kernel
theorem dX3_append_1 : decode cX3_append 1 = .ok (.getfield 15, 3) := by decide +kernel
theorem dX3_append_4 : decode cX3_append 4 = .ok (.bipush 60, 2) := by decide +kernel
theorem dX3_append_6 : decode cX3_append 6 = .ok (.if_icmp .ge 23, 3) := by decide +kernel
theorem dX3_append_9 : decode cX3_append 9 = .ok (.aload_n 0, 1) := by decide +kernel
theorem dX3_append_10 : decode cX3_append 10 = .ok (.getfield 9, 3) := by decide +kernel
theorem dX3_append_13 : decode cX3_append 13 = .ok (.aload_n 0, 1) := by decide +kernel
theorem dX3_append_14 : decode cX3_append 14 = .ok (.getfield 15, 3) := by decide +kernel
theorem dX3_append_17 : decode cX3_append 17 = .ok (.iload_n 1, 1) := by decide +kernel
theorem dX3_append_18 : decode cX3_append 18 = .ok (.castore, 1) := by decide +kernel
theorem dX3_append_19 : decode cX3_append 19 = .ok (.aload_n 0, 1) := by decide +kernel
theorem dX3_append_20 : decode cX3_append 20 = .ok (.dup, 1) := by decide +kernel
theorem dX3_append_21 : decode cX3_append 21 = .ok (.getfield 15, 3) := by decide +kernel
theorem dX3_append_24 : decode cX3_append 24 = .ok (.iconst 1, 1) := by decide +kernel
theorem dX3_append_25 : decode cX3_append 25 = .ok (.iadd, 1) := by decide +kernel
theorem dX3_append_26 : decode cX3_append 26 = .ok (.putfield 15, 3) := by decide +kernel
theorem dX3_append_29 : decode cX3_append 29 = .ok (.return_, 1) := by decide +kernel
theorem dX3_namesAhead_0 : decode cX3_namesAhead 0 = .ok (.iconst 0, 1) := by decide +kernel
theorem dX3_namesAhead_1 : decode cX3_namesAhead 1 = .ok (.istore_n 2, 1) := by decide +kernel
theorem dX3_namesAhead_2 : decode cX3_namesAhead 2 = .ok (.iconst 0, 1) := by decide +kernel
theorem dX3_namesAhead_3 : decode cX3_namesAhead 3 = .ok (.istore_n 3, 1) := by decide +kernel
theorem dX3_namesAhead_4 : decode cX3_namesAhead 4 = .ok (.iload_n 3, 1) := by decide +kernel
theorem dX3_namesAhead_5 : decode cX3_namesAhead 5 = .ok (.iload_n 1, 1) := by decide +kernel
theorem dX3_namesAhead_6 : decode cX3_namesAhead 6 = .ok (.if_icmp .ge 31, 3) := by decide +kernel
theorem dX3_namesAhead_9 : decode cX3_namesAhead 9 = .ok (.iload_n 3, 1) := by decide +kernel
theorem dX3_namesAhead_10 : decode cX3_namesAhead 10 = .ok (.aload_n 0, 1) := by decide +kernel
theorem dX3_namesAhead_11 : decode cX3_namesAhead 11 = .ok (.getfield 15, 3) := by decide +kernel
theorem dX3_namesAhead_14 : decode cX3_namesAhead 14 = .ok (.if_icmp .ge 23, 3) := by decide +kernel
theorem dX3_namesAhead_17 : decode cX3_namesAhead 17 = .ok (.aload_n 0, 1) := by decide +kernel
theorem dX3_namesAhead_18 : decode cX3_namesAhead 18 = .ok (.getfield 9, 3) := by decide +kernel
theorem dX3_namesAhead_21 : decode cX3_namesAhead 21 = .ok (.iload_n 3, 1) := by decide +kernel
theorem dX3_namesAhead_22 : decode cX3_namesAhead 22 = .ok (.caload, 1) := by decide +kernel
theorem dX3_namesAhead_23 : decode cX3_namesAhead 23 = .ok (.bipush 47, 2) := by decide +kernel
theorem dX3_namesAhead_25 : decode cX3_namesAhead 25 = .ok (.if_icmp .ne 6, 3) := by decide +kernel
theorem dX3_namesAhead_28 : decode cX3_namesAhead 28 = .ok (.iinc 2 1, 3) := by decide +kernel
theorem dX3_namesAhead_31 : decode cX3_namesAhead 31 = .ok (.iinc 3 1, 3) := by decide +kernel
theorem dX3_namesAhead_34 : decode cX3_namesAhead 34 = .ok (.goto (-30), 3) := by decide +kernel
theorem dX3_namesAhead_37 : decode cX3_namesAhead 37 = .ok (.iload_n 2, 1) := by decide +kernel
theorem dX3_namesAhead_38 : decode cX3_namesAhead 38 = .ok (.ireturn, 1) := by decide +kernel
theorem dX3_endOfName_0 : decode cX3_endOfName 0 = .ok (.iload_n 1, 1) := by decide +kernel
theorem dX3_endOfName_1 : decode cX3_endOfName 1 = .ok (.istore_n 2, 1) := by decide +kernel
theorem dX3_endOfName_2 : decode cX3_endOfName 2 = .ok (.iload_n 2, 1) := by decide +kernel
theorem dX3_endOfName_3 : decode cX3_endOfName 3 = .ok (.aload_n 0, 1) := by decide +kernel
theorem dX3_endOfName_4 : decode cX3_endOfName 4 = .ok (.getfield 15, 3) := by decide +kernel
theorem dX3_endOfName_7 : decode cX3_endOfName 7 = .ok (.if_icmp .ge 22, 3) := by decide +kernel
theorem dX3_endOfName_10 : decode cX3_endOfName 10 = .ok (.aload_n 0, 1) := by decide +kernel
theorem dX3_endOfName_11 : decode cX3_endOfName 11 = .ok (.getfield 9, 3) := by decide +kernel
theorem dX3_endOfName_14 : decode cX3_endOfName 14 = .ok (.iload_n 2, 1) := by decide +kernel
theorem dX3_endOfName_15 : decode cX3_endOfName 15 = .ok (.caload, 1) := by decide +kernel
theorem dX3_endOfName_16 : decode cX3_endOfName 16 = .ok (.bipush 47, 2) := by decide +kernel
theorem dX3_endOfName_18 : decode cX3_endOfName 18 = .ok (.if_icmp .ne 5, 3) := by decide +kernel
theorem dX3_endOfName_21 : decode cX3_endOfName 21 = .ok (.iload_n 2, 1) := by decide +kernel
theorem dX3_endOfName_22 : decode cX3_endOfName 22 = .ok (.ireturn, 1) := by decide +kernel
theorem dX3_endOfName_23 : decode cX3_endOfName 23 = .ok (.iinc 2 1, 3) := by decide +kernel
theorem dX3_endOfName_26 : decode cX3_endOfName 26 = .ok (.goto (-24), 3) := by decide +kernel
theorem dX3_endOfName_29 : decode cX3_endOfName 29 = .ok (.aload_n 0, 1) := by decide +kernel
theorem dX3_endOfName_30 : decode cX3_endOfName 30 = .ok (.getfield 15, 3) := by decide +kernel
theorem dX3_endOfName_33 : decode cX3_endOfName 33 = .ok (.ireturn, 1) := by decide +kernel
set_option maxRecDepth 20000 in
theorem ggX3_breakOf_X3_fits : GoodIn wsX3_breakOf wsX3_fits := goodIn_r _ [5, 6, 7, 8] (by decide +kernel) (by decide +kernel)
set_option maxRecDepth 20000 in
theorem gX3_breakOf_X3_fits : GoodIn wsX3_breakOf (wsV RX3 19 RX3 yX3_fits wsX3_fits) := goodIn_app (goodIn_of _ (by decide +kernel)) ggX3_breakOf_X3_fits
theorem dX3_breakOf_0 : decode cX3_breakOf 0 = .ok (.iload_n 1, 1) := by decide +kernel
theorem dX3_breakOf_1 : decode cX3_breakOf 1 = .ok (.iload_n 2, 1) := by decide +kernel
theorem dX3_breakOf_2 : decode cX3_breakOf 2 = .ok (.if_icmp .lt 5, 3) := by decide +kernel
theorem dX3_breakOf_5 : decode cX3_breakOf 5 = .ok (.iconst 0, 1) := by decide +kernel
theorem dX3_breakOf_6 : decode cX3_breakOf 6 = .ok (.ireturn, 1) := by decide +kernel
theorem dX3_breakOf_7 : decode cX3_breakOf 7 = .ok (.iload_n 1, 1) := by decide +kernel
theorem dX3_breakOf_8 : decode cX3_breakOf 8 = .ok (.istore_n 3, 1) := by decide +kernel
theorem dX3_breakOf_9 : decode cX3_breakOf 9 = .ok (.iload_n 3, 1) := by decide +kernel
theorem dX3_breakOf_10 : decode cX3_breakOf 10 = .ok (.iload_n 2, 1) := by decide +kernel
theorem dX3_breakOf_11 : decode cX3_breakOf 11 = .ok (.if_icmp .ge 31, 3) := by decide +kernel
theorem dX3_breakOf_14 : decode cX3_breakOf 14 = .ok (.iload_n 3, 1) := by decide +kernel
theorem dX3_breakOf_15 : decode cX3_breakOf 15 = .ok (.iload_n 1, 1) := by decide +kernel
theorem dX3_breakOf_16 : decode cX3_breakOf 16 = .ok (.isub, 1) := by decide +kernel
theorem dX3_breakOf_17 : decode cX3_breakOf 17 = .ok (.bipush 14, 2) := by decide +kernel
theorem dX3_breakOf_19 : decode cX3_breakOf 19 = .ok (.if_icmp .ge 13, 3) := by decide +kernel
theorem dX3_breakOf_22 : decode cX3_breakOf 22 = .ok (.aload_n 0, 1) := by decide +kernel
theorem dX3_breakOf_23 : decode cX3_breakOf 23 = .ok (.iload_n 3, 1) := by decide +kernel
theorem dX3_breakOf_24 : decode cX3_breakOf 24 = .ok (.iload_n 1, 1) := by decide +kernel
theorem dX3_breakOf_25 : decode cX3_breakOf 25 = .ok (.iload_n 2, 1) := by decide +kernel
theorem dX3_breakOf_26 : decode cX3_breakOf 26 = .ok (.invokevirtual 19, 3) := by decide +kernel
theorem dX3_breakOf_29 : decode cX3_breakOf 29 = .ok (.ifCond .ne 7, 3) := by decide +kernel
theorem dX3_breakOf_32 : decode cX3_breakOf 32 = .ok (.iload_n 3, 1) := by decide +kernel
theorem dX3_breakOf_33 : decode cX3_breakOf 33 = .ok (.iload_n 1, 1) := by decide +kernel
theorem dX3_breakOf_34 : decode cX3_breakOf 34 = .ok (.isub, 1) := by decide +kernel
theorem dX3_breakOf_35 : decode cX3_breakOf 35 = .ok (.ireturn, 1) := by decide +kernel
theorem dX3_breakOf_36 : decode cX3_breakOf 36 = .ok (.iinc 3 1, 3) := by decide +kernel
theorem dX3_breakOf_39 : decode cX3_breakOf 39 = .ok (.goto (-30), 3) := by decide +kernel
theorem dX3_breakOf_42 : decode cX3_breakOf 42 = .ok (.iconst (-1), 1) := by decide +kernel
theorem dX3_breakOf_43 : decode cX3_breakOf 43 = .ok (.ireturn, 1) := by decide +kernel
theorem dX3_fits_0 : decode cX3_fits 0 = .ok (.aload_n 0, 1) := by decide +kernel
theorem dX3_fits_1 : decode cX3_fits 1 = .ok (.getfield 9, 3) := by decide +kernel
theorem dX3_fits_4 : decode cX3_fits 4 = .ok (.iload_n 1, 1) := by decide +kernel
theorem dX3_fits_5 : decode cX3_fits 5 = .ok (.caload, 1) := by decide +kernel
theorem dX3_fits_6 : decode cX3_fits 6 = .ok (.bipush 32, 2) := by decide +kernel
theorem dX3_fits_8 : decode cX3_fits 8 = .ok (.if_icmp .ne 34, 3) := by decide +kernel
theorem dX3_fits_11 : decode cX3_fits 11 = .ok (.iload_n 1, 1) := by decide +kernel
theorem dX3_fits_12 : decode cX3_fits 12 = .ok (.iload_n 2, 1) := by decide +kernel
theorem dX3_fits_13 : decode cX3_fits 13 = .ok (.if_icmp .le 27, 3) := by decide +kernel
theorem dX3_fits_16 : decode cX3_fits 16 = .ok (.iload_n 1, 1) := by decide +kernel
theorem dX3_fits_17 : decode cX3_fits 17 = .ok (.iload_n 3, 1) := by decide +kernel
theorem dX3_fits_18 : decode cX3_fits 18 = .ok (.iconst 1, 1) := by decide +kernel
theorem dX3_fits_19 : decode cX3_fits 19 = .ok (.isub, 1) := by decide +kernel
theorem dX3_fits_20 : decode cX3_fits 20 = .ok (.if_icmp .ge 20, 3) := by decide +kernel
theorem dX3_fits_23 : decode cX3_fits 23 = .ok (.aload_n 0, 1) := by decide +kernel
theorem dX3_fits_24 : decode cX3_fits 24 = .ok (.getfield 9, 3) := by decide +kernel
theorem dX3_fits_27 : decode cX3_fits 27 = .ok (.iload_n 1, 1) := by decide +kernel
theorem dX3_fits_28 : decode cX3_fits 28 = .ok (.iconst 1, 1) := by decide +kernel
theorem dX3_fits_29 : decode cX3_fits 29 = .ok (.isub, 1) := by decide +kernel
theorem dX3_fits_30 : decode cX3_fits 30 = .ok (.caload, 1) := by decide +kernel
theorem dX3_fits_31 : decode cX3_fits 31 = .ok (.bipush 32, 2) := by decide +kernel
theorem dX3_fits_33 : decode cX3_fits 33 = .ok (.if_icmp .eq 7, 3) := by decide +kernel
theorem dX3_fits_36 : decode cX3_fits 36 = .ok (.iconst 1, 1) := by decide +kernel
theorem dX3_fits_37 : decode cX3_fits 37 = .ok (.goto 4, 3) := by decide +kernel
theorem dX3_fits_40 : decode cX3_fits 40 = .ok (.iconst 0, 1) := by decide +kernel
theorem dX3_fits_41 : decode cX3_fits 41 = .ok (.ireturn, 1) := by decide +kernel
theorem dX3_fits_42 : decode cX3_fits 42 = .ok (.aload_n 0, 1) := by decide +kernel
theorem dX3_fits_43 : decode cX3_fits 43 = .ok (.getfield 9, 3) := by decide +kernel
theorem dX3_fits_46 : decode cX3_fits 46 = .ok (.iload_n 1, 1) := by decide +kernel
theorem dX3_fits_47 : decode cX3_fits 47 = .ok (.caload, 1) := by decide +kernel
theorem dX3_fits_48 : decode cX3_fits 48 = .ok (.bipush 65, 2) := by decide +kernel
theorem dX3_fits_50 : decode cX3_fits 50 = .ok (.if_icmp .lt 18, 3) := by decide +kernel
theorem dX3_fits_53 : decode cX3_fits 53 = .ok (.aload_n 0, 1) := by decide +kernel
theorem dX3_fits_54 : decode cX3_fits 54 = .ok (.getfield 9, 3) := by decide +kernel
theorem dX3_fits_57 : decode cX3_fits 57 = .ok (.iload_n 1, 1) := by decide +kernel
theorem dX3_fits_58 : decode cX3_fits 58 = .ok (.caload, 1) := by decide +kernel
theorem dX3_fits_59 : decode cX3_fits 59 = .ok (.bipush 90, 2) := by decide +kernel
theorem dX3_fits_61 : decode cX3_fits 61 = .ok (.if_icmp .gt 7, 3) := by decide +kernel
theorem dX3_fits_64 : decode cX3_fits 64 = .ok (.iconst 1, 1) := by decide +kernel
theorem dX3_fits_65 : decode cX3_fits 65 = .ok (.goto 4, 3) := by decide +kernel
theorem dX3_fits_68 : decode cX3_fits 68 = .ok (.iconst 0, 1) := by decide +kernel
theorem dX3_fits_69 : decode cX3_fits 69 = .ok (.ireturn, 1) := by decide +kernel
set_option maxRecDepth 20000 in
theorem ggX3_width_X4_letterWidth : GoodIn wsX3_width wsX4_letterWidth := goodIn_r _ [4] (by decide +kernel) (by decide +kernel)
set_option maxRecDepth 20000 in
theorem gX3_width_X4_letterWidth_n23 : GoodIn wsX3_width (wsX4_letterWidth) := ggX3_width_X4_letterWidth
theorem dX3_width_0 : decode cX3_width 0 = .ok (.iconst 0, 1) := by decide +kernel
theorem dX3_width_1 : decode cX3_width 1 = .ok (.istore_n 3, 1) := by decide +kernel
theorem dX3_width_2 : decode cX3_width 2 = .ok (.iload_n 1, 1) := by decide +kernel
theorem dX3_width_3 : decode cX3_width 3 = .ok (.istore 4, 2) := by decide +kernel
theorem dX3_width_5 : decode cX3_width 5 = .ok (.iload 4, 2) := by decide +kernel
theorem dX3_width_7 : decode cX3_width 7 = .ok (.iload_n 2, 1) := by decide +kernel
theorem dX3_width_8 : decode cX3_width 8 = .ok (.if_icmp .ge 22, 3) := by decide +kernel
theorem dX3_width_11 : decode cX3_width 11 = .ok (.iload_n 3, 1) := by decide +kernel
theorem dX3_width_12 : decode cX3_width 12 = .ok (.aload_n 0, 1) := by decide +kernel
theorem dX3_width_13 : decode cX3_width 13 = .ok (.getfield 9, 3) := by decide +kernel
theorem dX3_width_16 : decode cX3_width 16 = .ok (.iload 4, 2) := by decide +kernel
theorem dX3_width_18 : decode cX3_width 18 = .ok (.caload, 1) := by decide +kernel
theorem dX3_width_19 : decode cX3_width 19 = .ok (.invokestatic 23, 3) := by decide +kernel
theorem dX3_width_22 : decode cX3_width 22 = .ok (.iadd, 1) := by decide +kernel
theorem dX3_width_23 : decode cX3_width 23 = .ok (.istore_n 3, 1) := by decide +kernel
theorem dX3_width_24 : decode cX3_width 24 = .ok (.iinc 4 1, 3) := by decide +kernel
theorem dX3_width_27 : decode cX3_width 27 = .ok (.goto (-22), 3) := by decide +kernel
theorem dX3_width_30 : decode cX3_width 30 = .ok (.iload_n 3, 1) := by decide +kernel
theorem dX3_width_31 : decode cX3_width 31 = .ok (.ireturn, 1) := by decide +kernel
theorem dX3_isNameOf_0 : decode cX3_isNameOf 0 = .ok (.aload_n 1, 1) := by decide +kernel
theorem dX3_isNameOf_1 : decode cX3_isNameOf 1 = .ok (.getfield 27, 3) := by decide +kernel
theorem dX3_isNameOf_4 : decode cX3_isNameOf 4 = .ok (.aload_n 0, 1) := by decide +kernel
theorem dX3_isNameOf_5 : decode cX3_isNameOf 5 = .ok (.getfield 15, 3) := by decide +kernel
theorem dX3_isNameOf_8 : decode cX3_isNameOf 8 = .ok (.if_icmp .eq 5, 3) := by decide +kernel
theorem dX3_isNameOf_11 : decode cX3_isNameOf 11 = .ok (.iconst 0, 1) := by decide +kernel
theorem dX3_isNameOf_12 : decode cX3_isNameOf 12 = .ok (.ireturn, 1) := by decide +kernel
theorem dX3_isNameOf_13 : decode cX3_isNameOf 13 = .ok (.iconst 0, 1) := by decide +kernel
theorem dX3_isNameOf_14 : decode cX3_isNameOf 14 = .ok (.istore_n 2, 1) := by decide +kernel
theorem dX3_isNameOf_15 : decode cX3_isNameOf 15 = .ok (.iload_n 2, 1) := by decide +kernel
theorem dX3_isNameOf_16 : decode cX3_isNameOf 16 = .ok (.aload_n 1, 1) := by decide +kernel
theorem dX3_isNameOf_17 : decode cX3_isNameOf 17 = .ok (.getfield 27, 3) := by decide +kernel
theorem dX3_isNameOf_20 : decode cX3_isNameOf 20 = .ok (.if_icmp .ge 26, 3) := by decide +kernel
theorem dX3_isNameOf_23 : decode cX3_isNameOf 23 = .ok (.aload_n 1, 1) := by decide +kernel
theorem dX3_isNameOf_24 : decode cX3_isNameOf 24 = .ok (.getfield 30, 3) := by decide +kernel
theorem dX3_isNameOf_27 : decode cX3_isNameOf 27 = .ok (.iload_n 2, 1) := by decide +kernel
theorem dX3_isNameOf_28 : decode cX3_isNameOf 28 = .ok (.caload, 1) := by decide +kernel
theorem dX3_isNameOf_29 : decode cX3_isNameOf 29 = .ok (.aload_n 0, 1) := by decide +kernel
theorem dX3_isNameOf_30 : decode cX3_isNameOf 30 = .ok (.getfield 9, 3) := by decide +kernel
theorem dX3_isNameOf_33 : decode cX3_isNameOf 33 = .ok (.iload_n 2, 1) := by decide +kernel
theorem dX3_isNameOf_34 : decode cX3_isNameOf 34 = .ok (.caload, 1) := by decide +kernel
theorem dX3_isNameOf_35 : decode cX3_isNameOf 35 = .ok (.if_icmp .eq 5, 3) := by decide +kernel
theorem dX3_isNameOf_38 : decode cX3_isNameOf 38 = .ok (.iconst 0, 1) := by decide +kernel
theorem dX3_isNameOf_39 : decode cX3_isNameOf 39 = .ok (.ireturn, 1) := by decide +kernel
theorem dX3_isNameOf_40 : decode cX3_isNameOf 40 = .ok (.iinc 2 1, 3) := by decide +kernel
theorem dX3_isNameOf_43 : decode cX3_isNameOf 43 = .ok (.goto (-28), 3) := by decide +kernel
theorem dX3_isNameOf_46 : decode cX3_isNameOf 46 = .ok (.iconst 1, 1) := by decide +kernel
theorem dX3_isNameOf_47 : decode cX3_isNameOf 47 = .ok (.ireturn, 1) := by decide +kernel
