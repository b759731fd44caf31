theorem dL_cell_0 : decode cL_cell 0 = .ok (.iload_n 1, 1) := by decide +kernel
theorem dL_cell_1 : decode cL_cell 1 = .ok (.aload_n 0, 1) := by decide +kernel
theorem dL_cell_2 : decode cL_cell 2 = .ok (.arraylength, 1) := by decide +kernel
theorem dL_cell_3 : decode cL_cell 3 = .ok (.if_icmp .ge 9, 3) := by decide +kernel
theorem dL_cell_6 : decode cL_cell 6 = .ok (.aload_n 0, 1) := by decide +kernel
theorem dL_cell_7 : decode cL_cell 7 = .ok (.iload_n 1, 1) := by decide +kernel
theorem dL_cell_8 : decode cL_cell 8 = .ok (.iaload, 1) := by decide +kernel
theorem dL_cell_9 : decode cL_cell 9 = .ok (.goto 9, 3) := by decide +kernel
theorem dL_cell_12 : decode cL_cell 12 = .ok (.ldc 7, 2) := by decide +kernel
theorem dL_cell_14 : decode cL_cell 14 = .ok (.iload_n 1, 1) := by decide +kernel
theorem dL_cell_15 : decode cL_cell 15 = .ok (.iconst 3, 1) := by decide +kernel
theorem dL_cell_16 : decode cL_cell 16 = .ok (.iadd, 1) := by decide +kernel
theorem dL_cell_17 : decode cL_cell 17 = .ok (.imul, 1) := by decide +kernel
theorem dL_cell_18 : decode cL_cell 18 = .ok (.ireturn, 1) := by decide +kernel
theorem dL_low_0 : decode cL_low 0 = .ok (.iload_n 0, 1) := by decide +kernel
theorem dL_low_1 : decode cL_low 1 = .ok (.ldc 8, 2) := by decide +kernel
theorem dL_low_3 : decode cL_low 3 = .ok (.iand, 1) := by decide +kernel
theorem dL_low_4 : decode cL_low 4 = .ok (.iload_n 1, 1) := by decide +kernel
theorem dL_low_5 : decode cL_low 5 = .ok (.irem, 1) := by decide +kernel
theorem dL_low_6 : decode cL_low 6 = .ok (.ireturn, 1) := by decide +kernel
theorem dL_sign_0 : decode cL_sign 0 = .ok (.aload_n 0, 1) := by decide +kernel
theorem dL_sign_1 : decode cL_sign 1 = .ok (.iconst 2, 1) := by decide +kernel
theorem dL_sign_2 : decode cL_sign 2 = .ok (.iload_n 1, 1) := by decide +kernel
theorem dL_sign_3 : decode cL_sign 3 = .ok (.imul, 1) := by decide +kernel
theorem dL_sign_4 : decode cL_sign 4 = .ok (.iload_n 2, 1) := by decide +kernel
theorem dL_sign_5 : decode cL_sign 5 = .ok (.bipush 10, 2) := by decide +kernel
theorem dL_sign_7 : decode cL_sign 7 = .ok (.idiv, 1) := by decide +kernel
theorem dL_sign_8 : decode cL_sign 8 = .ok (.iadd, 1) := by decide +kernel
theorem dL_sign_9 : decode cL_sign 9 = .ok (.laload, 1) := by decide +kernel
theorem dL_sign_10 : decode cL_sign 10 = .ok (.bipush 6, 2) := by decide +kernel
theorem dL_sign_12 : decode cL_sign 12 = .ok (.iload_n 2, 1) := by decide +kernel
theorem dL_sign_13 : decode cL_sign 13 = .ok (.bipush 10, 2) := by decide +kernel
theorem dL_sign_15 : decode cL_sign 15 = .ok (.irem, 1) := by decide +kernel
theorem dL_sign_16 : decode cL_sign 16 = .ok (.imul, 1) := by decide +kernel
theorem dL_sign_17 : decode cL_sign 17 = .ok (.lshr, 1) := by decide +kernel
theorem dL_sign_18 : decode cL_sign 18 = .ok (.ldc2_w 9, 3) := by decide +kernel
theorem dL_sign_21 : decode cL_sign 21 = .ok (.land, 1) := by decide +kernel
theorem dL_sign_22 : decode cL_sign 22 = .ok (.l2i, 1) := by decide +kernel
theorem dL_sign_23 : decode cL_sign 23 = .ok (.istore_n 3, 1) := by decide +kernel
theorem dL_sign_24 : decode cL_sign 24 = .ok (.iload_n 3, 1) := by decide +kernel
theorem dL_sign_25 : decode cL_sign 25 = .ok (.bipush 31, 2) := by decide +kernel
theorem dL_sign_27 : decode cL_sign 27 = .ok (.iadd, 1) := by decide +kernel
theorem dL_sign_28 : decode cL_sign 28 = .ok (.ireturn, 1) := by decide +kernel
theorem dL_wide_0 : decode cL_wide 0 = .ok (.iload_n 0, 1) := by decide +kernel
theorem dL_wide_1 : decode cL_wide 1 = .ok (.bipush 32, 2) := by decide +kernel
theorem dL_wide_3 : decode cL_wide 3 = .ok (.if_icmp .eq 9, 3) := by decide +kernel
theorem dL_wide_6 : decode cL_wide 6 = .ok (.iload_n 0, 1) := by decide +kernel
theorem dL_wide_7 : decode cL_wide 7 = .ok (.bipush 73, 2) := by decide +kernel
theorem dL_wide_9 : decode cL_wide 9 = .ok (.if_icmp .ne 7, 3) := by decide +kernel
theorem dL_wide_12 : decode cL_wide 12 = .ok (.iconst 1, 1) := by decide +kernel
theorem dL_wide_13 : decode cL_wide 13 = .ok (.goto 20, 3) := by decide +kernel
theorem dL_wide_16 : decode cL_wide 16 = .ok (.iload_n 0, 1) := by decide +kernel
theorem dL_wide_17 : decode cL_wide 17 = .ok (.bipush 77, 2) := by decide +kernel
theorem dL_wide_19 : decode cL_wide 19 = .ok (.if_icmp .eq 9, 3) := by decide +kernel
theorem dL_wide_22 : decode cL_wide 22 = .ok (.iload_n 0, 1) := by decide +kernel
theorem dL_wide_23 : decode cL_wide 23 = .ok (.bipush 87, 2) := by decide +kernel
theorem dL_wide_25 : decode cL_wide 25 = .ok (.if_icmp .ne 7, 3) := by decide +kernel
theorem dL_wide_28 : decode cL_wide 28 = .ok (.iconst 3, 1) := by decide +kernel
theorem dL_wide_29 : decode cL_wide 29 = .ok (.goto 4, 3) := by decide +kernel
theorem dL_wide_32 : decode cL_wide 32 = .ok (.iconst 2, 1) := by decide +kernel
theorem dL_wide_33 : decode cL_wide 33 = .ok (.ireturn, 1) := by decide +kernel
theorem dL_width_0 : decode cL_width 0 = .ok (.iconst 0, 1) := by decide +kernel
theorem dL_width_1 : decode cL_width 1 = .ok (.istore_n 3, 1) := by decide +kernel
theorem dL_width_2 : decode cL_width 2 = .ok (.iconst 0, 1) := by decide +kernel
theorem dL_width_3 : decode cL_width 3 = .ok (.istore 4, 2) := by decide +kernel
theorem dL_width_5 : decode cL_width 5 = .ok (.iload 4, 2) := by decide +kernel
theorem dL_width_7 : decode cL_width 7 = .ok (.aload_n 0, 1) := by decide +kernel
theorem dL_width_8 : decode cL_width 8 = .ok (.iload_n 2, 1) := by decide +kernel
theorem dL_width_9 : decode cL_width 9 = .ok (.iaload, 1) := by decide +kernel
theorem dL_width_10 : decode cL_width 10 = .ok (.if_icmp .ge 22, 3) := by decide +kernel
theorem dL_width_13 : decode cL_width 13 = .ok (.iload_n 3, 1) := by decide +kernel
theorem dL_width_14 : decode cL_width 14 = .ok (.aload_n 1, 1) := by decide +kernel
theorem dL_width_15 : decode cL_width 15 = .ok (.iload_n 2, 1) := by decide +kernel
theorem dL_width_16 : decode cL_width 16 = .ok (.iload 4, 2) := by decide +kernel
theorem dL_width_18 : decode cL_width 18 = .ok (.invokestatic 11, 3) := by decide +kernel
theorem dL_width_21 : decode cL_width 21 = .ok (.invokestatic 17, 3) := by decide +kernel
theorem dL_width_24 : decode cL_width 24 = .ok (.iadd, 1) := by decide +kernel
theorem dL_width_25 : decode cL_width 25 = .ok (.istore_n 3, 1) := by decide +kernel
theorem dL_width_26 : decode cL_width 26 = .ok (.iinc 4 1, 3) := by decide +kernel
theorem dL_width_29 : decode cL_width 29 = .ok (.goto (-24), 3) := by decide +kernel
theorem dL_width_32 : decode cL_width 32 = .ok (.iload_n 3, 1) := by decide +kernel
theorem dL_width_33 : decode cL_width 33 = .ok (.ireturn, 1) := by decide +kernel
theorem dL_squeeze_0 : decode cL_squeeze 0 = .ok (.bipush 100, 2) := by decide +kernel
theorem dL_squeeze_2 : decode cL_squeeze 2 = .ok (.iload_n 1, 1) := by decide +kernel
theorem dL_squeeze_3 : decode cL_squeeze 3 = .ok (.imul, 1) := by decide +kernel
theorem dL_squeeze_4 : decode cL_squeeze 4 = .ok (.aload_n 0, 1) := by decide +kernel
theorem dL_squeeze_5 : decode cL_squeeze 5 = .ok (.bipush 8, 2) := by decide +kernel
theorem dL_squeeze_7 : decode cL_squeeze 7 = .ok (.iaload, 1) := by decide +kernel
theorem dL_squeeze_8 : decode cL_squeeze 8 = .ok (.idiv, 1) := by decide +kernel
theorem dL_squeeze_9 : decode cL_squeeze 9 = .ok (.istore_n 2, 1) := by decide +kernel
theorem dL_squeeze_10 : decode cL_squeeze 10 = .ok (.iload_n 2, 1) := by decide +kernel
theorem dL_squeeze_11 : decode cL_squeeze 11 = .ok (.bipush 100, 2) := by decide +kernel
theorem dL_squeeze_13 : decode cL_squeeze 13 = .ok (.if_icmp .le 7, 3) := by decide +kernel
theorem dL_squeeze_16 : decode cL_squeeze 16 = .ok (.iload_n 2, 1) := by decide +kernel
theorem dL_squeeze_17 : decode cL_squeeze 17 = .ok (.goto 5, 3) := by decide +kernel
theorem dL_squeeze_20 : decode cL_squeeze 20 = .ok (.bipush 100, 2) := by decide +kernel
theorem dL_squeeze_22 : decode cL_squeeze 22 = .ok (.ireturn, 1) := by decide +kernel
theorem dL_is_0 : decode cL_is 0 = .ok (.aload_n 0, 1) := by decide +kernel
theorem dL_is_1 : decode cL_is 1 = .ok (.iload_n 2, 1) := by decide +kernel
theorem dL_is_2 : decode cL_is 2 = .ok (.iaload, 1) := by decide +kernel
theorem dL_is_3 : decode cL_is 3 = .ok (.iload 5, 2) := by decide +kernel
theorem dL_is_5 : decode cL_is 5 = .ok (.if_icmp .ne 7, 3) := by decide +kernel
theorem dL_is_8 : decode cL_is 8 = .ok (.iconst 1, 1) := by decide +kernel
theorem dL_is_9 : decode cL_is 9 = .ok (.goto 4, 3) := by decide +kernel
theorem dL_is_12 : decode cL_is 12 = .ok (.iconst 0, 1) := by decide +kernel
theorem dL_is_13 : decode cL_is 13 = .ok (.istore 6, 2) := by decide +kernel
theorem dL_is_15 : decode cL_is 15 = .ok (.iconst 0, 1) := by decide +kernel
theorem dL_is_16 : decode cL_is 16 = .ok (.istore 7, 2) := by decide +kernel
theorem dL_is_18 : decode cL_is 18 = .ok (.iload 7, 2) := by decide +kernel
theorem dL_is_20 : decode cL_is 20 = .ok (.iload 5, 2) := by decide +kernel
theorem dL_is_22 : decode cL_is 22 = .ok (.if_icmp .ge 49, 3) := by decide +kernel
theorem dL_is_25 : decode cL_is 25 = .ok (.iload 6, 2) := by decide +kernel
theorem dL_is_27 : decode cL_is 27 = .ok (.ifCond .eq 44, 3) := by decide +kernel
theorem dL_is_30 : decode cL_is 30 = .ok (.aload_n 1, 1) := by decide +kernel
theorem dL_is_31 : decode cL_is 31 = .ok (.iload_n 2, 1) := by decide +kernel
theorem dL_is_32 : decode cL_is 32 = .ok (.iload 7, 2) := by decide +kernel
theorem dL_is_34 : decode cL_is 34 = .ok (.invokestatic 11, 3) := by decide +kernel
theorem dL_is_37 : decode cL_is 37 = .ok (.i2l, 1) := by decide +kernel
theorem dL_is_38 : decode cL_is 38 = .ok (.lload_n 3, 1) := by decide +kernel
theorem dL_is_39 : decode cL_is 39 = .ok (.bipush 8, 2) := by decide +kernel
theorem dL_is_41 : decode cL_is 41 = .ok (.iload 5, 2) := by decide +kernel
theorem dL_is_43 : decode cL_is 43 = .ok (.iconst 1, 1) := by decide +kernel
theorem dL_is_44 : decode cL_is 44 = .ok (.isub, 1) := by decide +kernel
theorem dL_is_45 : decode cL_is 45 = .ok (.iload 7, 2) := by decide +kernel
theorem dL_is_47 : decode cL_is 47 = .ok (.isub, 1) := by decide +kernel
theorem dL_is_48 : decode cL_is 48 = .ok (.imul, 1) := by decide +kernel
theorem dL_is_49 : decode cL_is 49 = .ok (.lshr, 1) := by decide +kernel
theorem dL_is_50 : decode cL_is 50 = .ok (.ldc2_w 21, 3) := by decide +kernel
theorem dL_is_53 : decode cL_is 53 = .ok (.land, 1) := by decide +kernel
theorem dL_is_54 : decode cL_is 54 = .ok (.lcmp, 1) := by decide +kernel
theorem dL_is_55 : decode cL_is 55 = .ok (.ifCond .ne 7, 3) := by decide +kernel
theorem dL_is_58 : decode cL_is 58 = .ok (.iconst 1, 1) := by decide +kernel
theorem dL_is_59 : decode cL_is 59 = .ok (.goto 4, 3) := by decide +kernel
theorem dL_is_62 : decode cL_is 62 = .ok (.iconst 0, 1) := by decide +kernel
theorem dL_is_63 : decode cL_is 63 = .ok (.istore 6, 2) := by decide +kernel
theorem dL_is_65 : decode cL_is 65 = .ok (.iinc 7 1, 3) := by decide +kernel
theorem dL_is_68 : decode cL_is 68 = .ok (.goto (-50), 3) := by decide +kernel
theorem dL_is_71 : decode cL_is 71 = .ok (.iload 6, 2) := by decide +kernel
theorem dL_is_73 : decode cL_is 73 = .ok (.ireturn, 1) := by decide +kernel
theorem dL_kind_0 : decode cL_kind 0 = .ok (.aload_n 0, 1) := by decide +kernel
theorem dL_kind_1 : decode cL_kind 1 = .ok (.aload_n 1, 1) := by decide +kernel
theorem dL_kind_2 : decode cL_kind 2 = .ok (.iload_n 2, 1) := by decide +kernel
theorem dL_kind_3 : decode cL_kind 3 = .ok (.ldc2_w 23, 3) := by decide +kernel
theorem dL_kind_6 : decode cL_kind 6 = .ok (.iconst 5, 1) := by decide +kernel
theorem dL_kind_7 : decode cL_kind 7 = .ok (.invokestatic 25, 3) := by decide +kernel
theorem dL_kind_10 : decode cL_kind 10 = .ok (.ifCond .eq 7, 3) := by decide +kernel
theorem dL_kind_13 : decode cL_kind 13 = .ok (.iconst 1, 1) := by decide +kernel
theorem dL_kind_14 : decode cL_kind 14 = .ok (.goto 50, 3) := by decide +kernel
theorem dL_kind_17 : decode cL_kind 17 = .ok (.aload_n 0, 1) := by decide +kernel
theorem dL_kind_18 : decode cL_kind 18 = .ok (.aload_n 1, 1) := by decide +kernel
theorem dL_kind_19 : decode cL_kind 19 = .ok (.iload_n 2, 1) := by decide +kernel
theorem dL_kind_20 : decode cL_kind 20 = .ok (.ldc2_w 29, 3) := by decide +kernel
theorem dL_kind_23 : decode cL_kind 23 = .ok (.iconst 5, 1) := by decide +kernel
theorem dL_kind_24 : decode cL_kind 24 = .ok (.invokestatic 25, 3) := by decide +kernel
theorem dL_kind_27 : decode cL_kind 27 = .ok (.ifCond .eq 7, 3) := by decide +kernel
theorem dL_kind_30 : decode cL_kind 30 = .ok (.iconst 2, 1) := by decide +kernel
theorem dL_kind_31 : decode cL_kind 31 = .ok (.goto 33, 3) := by decide +kernel
theorem dL_kind_34 : decode cL_kind 34 = .ok (.aload_n 0, 1) := by decide +kernel
theorem dL_kind_35 : decode cL_kind 35 = .ok (.aload_n 1, 1) := by decide +kernel
theorem dL_kind_36 : decode cL_kind 36 = .ok (.iload_n 2, 1) := by decide +kernel
theorem dL_kind_37 : decode cL_kind 37 = .ok (.ldc2_w 31, 3) := by decide +kernel
theorem dL_kind_40 : decode cL_kind 40 = .ok (.bipush 7, 2) := by decide +kernel
theorem dL_kind_42 : decode cL_kind 42 = .ok (.invokestatic 25, 3) := by decide +kernel
theorem dL_kind_45 : decode cL_kind 45 = .ok (.ifCond .eq 7, 3) := by decide +kernel
theorem dL_kind_48 : decode cL_kind 48 = .ok (.iconst 3, 1) := by decide +kernel
theorem dL_kind_49 : decode cL_kind 49 = .ok (.goto 15, 3) := by decide +kernel
theorem dL_kind_52 : decode cL_kind 52 = .ok (.aload_n 0, 1) := by decide +kernel
theorem dL_kind_53 : decode cL_kind 53 = .ok (.iload_n 2, 1) := by decide +kernel
theorem dL_kind_54 : decode cL_kind 54 = .ok (.iaload, 1) := by decide +kernel
theorem dL_kind_55 : decode cL_kind 55 = .ok (.iconst 1, 1) := by decide +kernel
theorem dL_kind_56 : decode cL_kind 56 = .ok (.if_icmp .ne 7, 3) := by decide +kernel
theorem dL_kind_59 : decode cL_kind 59 = .ok (.iconst 4, 1) := by decide +kernel
theorem dL_kind_60 : decode cL_kind 60 = .ok (.goto 4, 3) := by decide +kernel
theorem dL_kind_63 : decode cL_kind 63 = .ok (.iconst 0, 1) := by decide +kernel
theorem dL_kind_64 : decode cL_kind 64 = .ok (.ireturn, 1) := by decide +kernel
theorem dL_wrong_0 : decode cL_wrong 0 = .ok (.iload 5, 2) := by decide +kernel
theorem dL_wrong_2 : decode cL_wrong 2 = .ok (.ifCond .lt 11, 3) := by decide +kernel
theorem dL_wrong_5 : decode cL_wrong 5 = .ok (.aload_n 2, 1) := by decide +kernel
theorem dL_wrong_6 : decode cL_wrong 6 = .ok (.iload 5, 2) := by decide +kernel
theorem dL_wrong_8 : decode cL_wrong 8 = .ok (.iaload, 1) := by decide +kernel
theorem dL_wrong_9 : decode cL_wrong 9 = .ok (.iconst 1, 1) := by decide +kernel
theorem dL_wrong_10 : decode cL_wrong 10 = .ok (.if_icmp .ne 14, 3) := by decide +kernel
theorem dL_wrong_13 : decode cL_wrong 13 = .ok (.iload 5, 2) := by decide +kernel
theorem dL_wrong_15 : decode cL_wrong 15 = .ok (.ifCond .ge 7, 3) := by decide +kernel
theorem dL_wrong_18 : decode cL_wrong 18 = .ok (.iconst 1, 1) := by decide +kernel
theorem dL_wrong_19 : decode cL_wrong 19 = .ok (.goto 4, 3) := by decide +kernel
theorem dL_wrong_22 : decode cL_wrong 22 = .ok (.iconst 2, 1) := by decide +kernel
theorem dL_wrong_23 : decode cL_wrong 23 = .ok (.ireturn, 1) := by decide +kernel
theorem dL_wrong_24 : decode cL_wrong 24 = .ok (.aload_n 1, 1) := by decide +kernel
theorem dL_wrong_25 : decode cL_wrong 25 = .ok (.aload_n 3, 1) := by decide +kernel
theorem dL_wrong_26 : decode cL_wrong 26 = .ok (.iload 5, 2) := by decide +kernel
theorem dL_wrong_28 : decode cL_wrong 28 = .ok (.invokestatic 33, 3) := by decide +kernel
theorem dL_wrong_31 : decode cL_wrong 31 = .ok (.istore 6, 2) := by decide +kernel
theorem dL_wrong_33 : decode cL_wrong 33 = .ok (.aload_n 0, 1) := by decide +kernel
theorem dL_wrong_34 : decode cL_wrong 34 = .ok (.iconst 3, 1) := by decide +kernel
theorem dL_wrong_35 : decode cL_wrong 35 = .ok (.iaload, 1) := by decide +kernel
theorem dL_wrong_36 : decode cL_wrong 36 = .ok (.ifCond .lt 24, 3) := by decide +kernel
theorem dL_wrong_39 : decode cL_wrong 39 = .ok (.aload 4, 2) := by decide +kernel
theorem dL_wrong_41 : decode cL_wrong 41 = .ok (.iconst 3, 1) := by decide +kernel
theorem dL_wrong_42 : decode cL_wrong 42 = .ok (.aload_n 0, 1) := by decide +kernel
theorem dL_wrong_43 : decode cL_wrong 43 = .ok (.iconst 3, 1) := by decide +kernel
theorem dL_wrong_44 : decode cL_wrong 44 = .ok (.iaload, 1) := by decide +kernel
theorem dL_wrong_45 : decode cL_wrong 45 = .ok (.imul, 1) := by decide +kernel
theorem dL_wrong_46 : decode cL_wrong 46 = .ok (.iaload, 1) := by decide +kernel
theorem dL_wrong_47 : decode cL_wrong 47 = .ok (.iload 5, 2) := by decide +kernel
theorem dL_wrong_49 : decode cL_wrong 49 = .ok (.ishr, 1) := by decide +kernel
theorem dL_wrong_50 : decode cL_wrong 50 = .ok (.iconst 1, 1) := by decide +kernel
theorem dL_wrong_51 : decode cL_wrong 51 = .ok (.iand, 1) := by decide +kernel
theorem dL_wrong_52 : decode cL_wrong 52 = .ok (.iconst 1, 1) := by decide +kernel
theorem dL_wrong_53 : decode cL_wrong 53 = .ok (.if_icmp .ne 7, 3) := by decide +kernel
theorem dL_wrong_56 : decode cL_wrong 56 = .ok (.iconst 1, 1) := by decide +kernel
theorem dL_wrong_57 : decode cL_wrong 57 = .ok (.goto 4, 3) := by decide +kernel
theorem dL_wrong_60 : decode cL_wrong 60 = .ok (.iconst 0, 1) := by decide +kernel
theorem dL_wrong_61 : decode cL_wrong 61 = .ok (.istore 7, 2) := by decide +kernel
theorem dL_wrong_63 : decode cL_wrong 63 = .ok (.aload_n 0, 1) := by decide +kernel
theorem dL_wrong_64 : decode cL_wrong 64 = .ok (.iconst 3, 1) := by decide +kernel
theorem dL_wrong_65 : decode cL_wrong 65 = .ok (.iaload, 1) := by decide +kernel
theorem dL_wrong_66 : decode cL_wrong 66 = .ok (.ifCond .ge 23, 3) := by decide +kernel
theorem dL_wrong_69 : decode cL_wrong 69 = .ok (.iload 6, 2) := by decide +kernel
theorem dL_wrong_71 : decode cL_wrong 71 = .ok (.iconst 1, 1) := by decide +kernel
theorem dL_wrong_72 : decode cL_wrong 72 = .ok (.if_icmp .eq 9, 3) := by decide +kernel
theorem dL_wrong_75 : decode cL_wrong 75 = .ok (.iload 6, 2) := by decide +kernel
theorem dL_wrong_77 : decode cL_wrong 77 = .ok (.iconst 2, 1) := by decide +kernel
theorem dL_wrong_78 : decode cL_wrong 78 = .ok (.if_icmp .ne 7, 3) := by decide +kernel
theorem dL_wrong_81 : decode cL_wrong 81 = .ok (.iconst 0, 1) := by decide +kernel
theorem dL_wrong_82 : decode cL_wrong 82 = .ok (.goto 23, 3) := by decide +kernel
theorem dL_wrong_85 : decode cL_wrong 85 = .ok (.iconst 3, 1) := by decide +kernel
theorem dL_wrong_86 : decode cL_wrong 86 = .ok (.goto 19, 3) := by decide +kernel
theorem dL_wrong_89 : decode cL_wrong 89 = .ok (.iload 7, 2) := by decide +kernel
theorem dL_wrong_91 : decode cL_wrong 91 = .ok (.ifCond .ne 9, 3) := by decide +kernel
theorem dL_wrong_94 : decode cL_wrong 94 = .ok (.iload 6, 2) := by decide +kernel
theorem dL_wrong_96 : decode cL_wrong 96 = .ok (.iconst 2, 1) := by decide +kernel
theorem dL_wrong_97 : decode cL_wrong 97 = .ok (.if_icmp .ne 7, 3) := by decide +kernel
theorem dL_wrong_100 : decode cL_wrong 100 = .ok (.iconst 0, 1) := by decide +kernel
theorem dL_wrong_101 : decode cL_wrong 101 = .ok (.goto 4, 3) := by decide +kernel
theorem dL_wrong_104 : decode cL_wrong 104 = .ok (.iconst 4, 1) := by decide +kernel
theorem dL_wrong_105 : decode cL_wrong 105 = .ok (.istore 8, 2) := by decide +kernel
theorem dL_wrong_107 : decode cL_wrong 107 = .ok (.iload 8, 2) := by decide +kernel
theorem dL_wrong_109 : decode cL_wrong 109 = .ok (.ifCond .le 8, 3) := by decide +kernel
theorem dL_wrong_112 : decode cL_wrong 112 = .ok (.iload 8, 2) := by decide +kernel
theorem dL_wrong_114 : decode cL_wrong 114 = .ok (.goto 24, 3) := by decide +kernel
theorem dL_wrong_117 : decode cL_wrong 117 = .ok (.aload_n 0, 1) := by decide +kernel
theorem dL_wrong_118 : decode cL_wrong 118 = .ok (.aload_n 1, 1) := by decide +kernel
theorem dL_wrong_119 : decode cL_wrong 119 = .ok (.aload_n 3, 1) := by decide +kernel
theorem dL_wrong_120 : decode cL_wrong 120 = .ok (.iload 5, 2) := by decide +kernel
theorem dL_wrong_122 : decode cL_wrong 122 = .ok (.invokestatic 37, 3) := by decide +kernel
theorem dL_wrong_125 : decode cL_wrong 125 = .ok (.invokestatic 40, 3) := by decide +kernel
theorem dL_wrong_128 : decode cL_wrong 128 = .ok (.bipush 120, 2) := by decide +kernel
theorem dL_wrong_130 : decode cL_wrong 130 = .ok (.if_icmp .le 7, 3) := by decide +kernel
theorem dL_wrong_133 : decode cL_wrong 133 = .ok (.iconst 5, 1) := by decide +kernel
theorem dL_wrong_134 : decode cL_wrong 134 = .ok (.goto 4, 3) := by decide +kernel
theorem dL_wrong_137 : decode cL_wrong 137 = .ok (.iconst 0, 1) := by decide +kernel
theorem dL_wrong_138 : decode cL_wrong 138 = .ok (.ireturn, 1) := by decide +kernel
theorem dL_crank_0 : decode cL_crank 0 = .ok (.iload_n 3, 1) := by decide +kernel
theorem dL_crank_1 : decode cL_crank 1 = .ok (.ifCond .ge 7, 3) := by decide +kernel
theorem dL_crank_4 : decode cL_crank 4 = .ok (.iconst (-1), 1) := by decide +kernel
theorem dL_crank_5 : decode cL_crank 5 = .ok (.goto 4, 3) := by decide +kernel
theorem dL_crank_8 : decode cL_crank 8 = .ok (.iconst 1, 1) := by decide +kernel
theorem dL_crank_9 : decode cL_crank 9 = .ok (.istore 5, 2) := by decide +kernel
theorem dL_crank_11 : decode cL_crank 11 = .ok (.iconst 0, 1) := by decide +kernel
theorem dL_crank_12 : decode cL_crank 12 = .ok (.istore 6, 2) := by decide +kernel
theorem dL_crank_14 : decode cL_crank 14 = .ok (.iconst 0, 1) := by decide +kernel
theorem dL_crank_15 : decode cL_crank 15 = .ok (.istore 7, 2) := by decide +kernel
theorem dL_crank_17 : decode cL_crank 17 = .ok (.aload_n 0, 1) := by decide +kernel
theorem dL_crank_18 : decode cL_crank 18 = .ok (.iconst 1, 1) := by decide +kernel
theorem dL_crank_19 : decode cL_crank 19 = .ok (.iaload, 1) := by decide +kernel
theorem dL_crank_20 : decode cL_crank 20 = .ok (.iload 5, 2) := by decide +kernel
theorem dL_crank_22 : decode cL_crank 22 = .ok (.iadd, 1) := by decide +kernel
theorem dL_crank_23 : decode cL_crank 23 = .ok (.istore 8, 2) := by decide +kernel
theorem dL_crank_25 : decode cL_crank 25 = .ok (.iload 6, 2) := by decide +kernel
theorem dL_crank_27 : decode cL_crank 27 = .ok (.iload_n 3, 1) := by decide +kernel
theorem dL_crank_28 : decode cL_crank 28 = .ok (.iload 5, 2) := by decide +kernel
theorem dL_crank_30 : decode cL_crank 30 = .ok (.imul, 1) := by decide +kernel
theorem dL_crank_31 : decode cL_crank 31 = .ok (.if_icmp .ne 7, 3) := by decide +kernel
theorem dL_crank_34 : decode cL_crank 34 = .ok (.iconst 1, 1) := by decide +kernel
theorem dL_crank_35 : decode cL_crank 35 = .ok (.goto 39, 3) := by decide +kernel
theorem dL_crank_38 : decode cL_crank 38 = .ok (.iload 8, 2) := by decide +kernel
theorem dL_crank_40 : decode cL_crank 40 = .ok (.ifCond .lt 11, 3) := by decide +kernel
theorem dL_crank_43 : decode cL_crank 43 = .ok (.iload 8, 2) := by decide +kernel
theorem dL_crank_45 : decode cL_crank 45 = .ok (.aload_n 0, 1) := by decide +kernel
theorem dL_crank_46 : decode cL_crank 46 = .ok (.iconst 0, 1) := by decide +kernel
theorem dL_crank_47 : decode cL_crank 47 = .ok (.iaload, 1) := by decide +kernel
theorem dL_crank_48 : decode cL_crank 48 = .ok (.if_icmp .lt 7, 3) := by decide +kernel
theorem dL_crank_51 : decode cL_crank 51 = .ok (.iconst 2, 1) := by decide +kernel
theorem dL_crank_52 : decode cL_crank 52 = .ok (.goto 22, 3) := by decide +kernel
theorem dL_crank_55 : decode cL_crank 55 = .ok (.iload 6, 2) := by decide +kernel
theorem dL_crank_57 : decode cL_crank 57 = .ok (.ifCond .le 16, 3) := by decide +kernel
theorem dL_crank_60 : decode cL_crank 60 = .ok (.aload_n 2, 1) := by decide +kernel
theorem dL_crank_61 : decode cL_crank 61 = .ok (.aload_n 0, 1) := by decide +kernel
theorem dL_crank_62 : decode cL_crank 62 = .ok (.iconst 1, 1) := by decide +kernel
theorem dL_crank_63 : decode cL_crank 63 = .ok (.iaload, 1) := by decide +kernel
theorem dL_crank_64 : decode cL_crank 64 = .ok (.iaload, 1) := by decide +kernel
theorem dL_crank_65 : decode cL_crank 65 = .ok (.iconst 1, 1) := by decide +kernel
theorem dL_crank_66 : decode cL_crank 66 = .ok (.if_icmp .ne 7, 3) := by decide +kernel
theorem dL_crank_69 : decode cL_crank 69 = .ok (.iconst 3, 1) := by decide +kernel
theorem dL_crank_70 : decode cL_crank 70 = .ok (.goto 4, 3) := by decide +kernel
theorem dL_crank_73 : decode cL_crank 73 = .ok (.iconst 0, 1) := by decide +kernel
theorem dL_crank_74 : decode cL_crank 74 = .ok (.istore 9, 2) := by decide +kernel
theorem dL_crank_76 : decode cL_crank 76 = .ok (.iload 9, 2) := by decide +kernel
theorem dL_crank_78 : decode cL_crank 78 = .ok (.ifCond .le 37, 3) := by decide +kernel
theorem dL_crank_81 : decode cL_crank 81 = .ok (.aload_n 0, 1) := by decide +kernel
theorem dL_crank_82 : decode cL_crank 82 = .ok (.iconst 4, 1) := by decide +kernel
theorem dL_crank_83 : decode cL_crank 83 = .ok (.dup2, 1) := by decide +kernel
theorem dL_crank_84 : decode cL_crank 84 = .ok (.iaload, 1) := by decide +kernel
theorem dL_crank_85 : decode cL_crank 85 = .ok (.iload 7, 2) := by decide +kernel
theorem dL_crank_87 : decode cL_crank 87 = .ok (.iadd, 1) := by decide +kernel
theorem dL_crank_88 : decode cL_crank 88 = .ok (.iastore, 1) := by decide +kernel
theorem dL_crank_89 : decode cL_crank 89 = .ok (.aload_n 0, 1) := by decide +kernel
theorem dL_crank_90 : decode cL_crank 90 = .ok (.iconst 5, 1) := by decide +kernel
theorem dL_crank_91 : decode cL_crank 91 = .ok (.dup2, 1) := by decide +kernel
theorem dL_crank_92 : decode cL_crank 92 = .ok (.iaload, 1) := by decide +kernel
theorem dL_crank_93 : decode cL_crank 93 = .ok (.iload 6, 2) := by decide +kernel
theorem dL_crank_95 : decode cL_crank 95 = .ok (.iadd, 1) := by decide +kernel
theorem dL_crank_96 : decode cL_crank 96 = .ok (.iastore, 1) := by decide +kernel
theorem dL_crank_97 : decode cL_crank 97 = .ok (.iload 6, 2) := by decide +kernel
theorem dL_crank_99 : decode cL_crank 99 = .ok (.bipush 100, 2) := by decide +kernel
theorem dL_crank_101 : decode cL_crank 101 = .ok (.iload 7, 2) := by decide +kernel
theorem dL_crank_103 : decode cL_crank 103 = .ok (.imul, 1) := by decide +kernel
theorem dL_crank_104 : decode cL_crank 104 = .ok (.iadd, 1) := by decide +kernel
theorem dL_crank_105 : decode cL_crank 105 = .ok (.sipush 10000, 3) := by decide +kernel
theorem dL_crank_108 : decode cL_crank 108 = .ok (.iload 9, 2) := by decide +kernel
theorem dL_crank_110 : decode cL_crank 110 = .ok (.iconst 1, 1) := by decide +kernel
theorem dL_crank_111 : decode cL_crank 111 = .ok (.isub, 1) := by decide +kernel
theorem dL_crank_112 : decode cL_crank 112 = .ok (.imul, 1) := by decide +kernel
theorem dL_crank_113 : decode cL_crank 113 = .ok (.iadd, 1) := by decide +kernel
theorem dL_crank_114 : decode cL_crank 114 = .ok (.ireturn, 1) := by decide +kernel
theorem dL_crank_115 : decode cL_crank 115 = .ok (.iload 4, 2) := by decide +kernel
theorem dL_crank_117 : decode cL_crank 117 = .ok (.iconst 3, 1) := by decide +kernel
theorem dL_crank_118 : decode cL_crank 118 = .ok (.if_icmp .lt 10, 3) := by decide +kernel
theorem dL_crank_121 : decode cL_crank 121 = .ok (.iload 6, 2) := by decide +kernel
theorem dL_crank_123 : decode cL_crank 123 = .ok (.iconst 2, 1) := by decide +kernel
theorem dL_crank_124 : decode cL_crank 124 = .ok (.irem, 1) := by decide +kernel
theorem dL_crank_125 : decode cL_crank 125 = .ok (.ifCond .ne 74, 3) := by decide +kernel
theorem dL_crank_128 : decode cL_crank 128 = .ok (.aload_n 1, 1) := by decide +kernel
theorem dL_crank_129 : decode cL_crank 129 = .ok (.aload_n 0, 1) := by decide +kernel
theorem dL_crank_130 : decode cL_crank 130 = .ok (.iconst 1, 1) := by decide +kernel
theorem dL_crank_131 : decode cL_crank 131 = .ok (.iaload, 1) := by decide +kernel
theorem dL_crank_132 : decode cL_crank 132 = .ok (.dup2, 1) := by decide +kernel
theorem dL_crank_133 : decode cL_crank 133 = .ok (.iaload, 1) := by decide +kernel
theorem dL_crank_134 : decode cL_crank 134 = .ok (.iload 4, 2) := by decide +kernel
theorem dL_crank_136 : decode cL_crank 136 = .ok (.iadd, 1) := by decide +kernel
theorem dL_crank_137 : decode cL_crank 137 = .ok (.iastore, 1) := by decide +kernel
theorem dL_crank_138 : decode cL_crank 138 = .ok (.aload_n 2, 1) := by decide +kernel
theorem dL_crank_139 : decode cL_crank 139 = .ok (.aload_n 0, 1) := by decide +kernel
theorem dL_crank_140 : decode cL_crank 140 = .ok (.iconst 1, 1) := by decide +kernel
theorem dL_crank_141 : decode cL_crank 141 = .ok (.iaload, 1) := by decide +kernel
theorem dL_crank_142 : decode cL_crank 142 = .ok (.iaload, 1) := by decide +kernel
theorem dL_crank_143 : decode cL_crank 143 = .ok (.ifCond .ne 19, 3) := by decide +kernel
theorem dL_crank_146 : decode cL_crank 146 = .ok (.aload_n 1, 1) := by decide +kernel
theorem dL_crank_147 : decode cL_crank 147 = .ok (.aload_n 0, 1) := by decide +kernel
theorem dL_crank_148 : decode cL_crank 148 = .ok (.iconst 1, 1) := by decide +kernel
theorem dL_crank_149 : decode cL_crank 149 = .ok (.iaload, 1) := by decide +kernel
theorem dL_crank_150 : decode cL_crank 150 = .ok (.iaload, 1) := by decide +kernel
theorem dL_crank_151 : decode cL_crank 151 = .ok (.aload_n 0, 1) := by decide +kernel
theorem dL_crank_152 : decode cL_crank 152 = .ok (.bipush 9, 2) := by decide +kernel
theorem dL_crank_154 : decode cL_crank 154 = .ok (.iaload, 1) := by decide +kernel
theorem dL_crank_155 : decode cL_crank 155 = .ok (.if_icmp .le 7, 3) := by decide +kernel
theorem dL_crank_158 : decode cL_crank 158 = .ok (.iconst 1, 1) := by decide +kernel
theorem dL_crank_159 : decode cL_crank 159 = .ok (.goto 4, 3) := by decide +kernel
theorem dL_crank_162 : decode cL_crank 162 = .ok (.iconst 0, 1) := by decide +kernel
theorem dL_crank_163 : decode cL_crank 163 = .ok (.istore 10, 2) := by decide +kernel
theorem dL_crank_165 : decode cL_crank 165 = .ok (.aload_n 2, 1) := by decide +kernel
theorem dL_crank_166 : decode cL_crank 166 = .ok (.aload_n 0, 1) := by decide +kernel
theorem dL_crank_167 : decode cL_crank 167 = .ok (.iconst 1, 1) := by decide +kernel
theorem dL_crank_168 : decode cL_crank 168 = .ok (.iaload, 1) := by decide +kernel
theorem dL_crank_169 : decode cL_crank 169 = .ok (.iload 10, 2) := by decide +kernel
theorem dL_crank_171 : decode cL_crank 171 = .ok (.ifCond .eq 7, 3) := by decide +kernel
theorem dL_crank_174 : decode cL_crank 174 = .ok (.iconst 1, 1) := by decide +kernel
theorem dL_crank_175 : decode cL_crank 175 = .ok (.goto 8, 3) := by decide +kernel
theorem dL_crank_178 : decode cL_crank 178 = .ok (.aload_n 2, 1) := by decide +kernel
theorem dL_crank_179 : decode cL_crank 179 = .ok (.aload_n 0, 1) := by decide +kernel
theorem dL_crank_180 : decode cL_crank 180 = .ok (.iconst 1, 1) := by decide +kernel
theorem dL_crank_181 : decode cL_crank 181 = .ok (.iaload, 1) := by decide +kernel
theorem dL_crank_182 : decode cL_crank 182 = .ok (.iaload, 1) := by decide +kernel
theorem dL_crank_183 : decode cL_crank 183 = .ok (.iastore, 1) := by decide +kernel
theorem dL_crank_184 : decode cL_crank 184 = .ok (.iload 7, 2) := by decide +kernel
theorem dL_crank_186 : decode cL_crank 186 = .ok (.iload 10, 2) := by decide +kernel
theorem dL_crank_188 : decode cL_crank 188 = .ok (.ifCond .eq 7, 3) := by decide +kernel
theorem dL_crank_191 : decode cL_crank 191 = .ok (.iconst 1, 1) := by decide +kernel
theorem dL_crank_192 : decode cL_crank 192 = .ok (.goto 4, 3) := by decide +kernel
theorem dL_crank_195 : decode cL_crank 195 = .ok (.iconst 0, 1) := by decide +kernel
theorem dL_crank_196 : decode cL_crank 196 = .ok (.iadd, 1) := by decide +kernel
theorem dL_crank_197 : decode cL_crank 197 = .ok (.istore 7, 2) := by decide +kernel
theorem dL_crank_199 : decode cL_crank 199 = .ok (.aload_n 0, 1) := by decide +kernel
theorem dL_crank_200 : decode cL_crank 200 = .ok (.iconst 1, 1) := by decide +kernel
theorem dL_crank_201 : decode cL_crank 201 = .ok (.iload 8, 2) := by decide +kernel
theorem dL_crank_203 : decode cL_crank 203 = .ok (.iastore, 1) := by decide +kernel
theorem dL_crank_204 : decode cL_crank 204 = .ok (.iinc 6 1, 3) := by decide +kernel
theorem dL_crank_207 : decode cL_crank 207 = .ok (.goto (-190), 3) := by decide +kernel
theorem dL_name_0 : decode cL_name 0 = .ok (.iload_n 1, 1) := by decide +kernel
theorem dL_name_1 : decode cL_name 1 = .ok (.ifCond .le 33, 3) := by decide +kernel
theorem dL_name_4 : decode cL_name 4 = .ok (.iload_n 1, 1) := by decide +kernel
theorem dL_name_5 : decode cL_name 5 = .ok (.iconst 1, 1) := by decide +kernel
theorem dL_name_6 : decode cL_name 6 = .ok (.iadd, 1) := by decide +kernel
theorem dL_name_7 : decode cL_name 7 = .ok (.iload_n 2, 1) := by decide +kernel
theorem dL_name_8 : decode cL_name 8 = .ok (.if_icmp .ge 26, 3) := by decide +kernel
theorem dL_name_11 : decode cL_name 11 = .ok (.iload_n 1, 1) := by decide +kernel
theorem dL_name_12 : decode cL_name 12 = .ok (.iconst 2, 1) := by decide +kernel
theorem dL_name_13 : decode cL_name 13 = .ok (.irem, 1) := by decide +kernel
theorem dL_name_14 : decode cL_name 14 = .ok (.iconst 1, 1) := by decide +kernel
theorem dL_name_15 : decode cL_name 15 = .ok (.if_icmp .ne 19, 3) := by decide +kernel
theorem dL_name_18 : decode cL_name 18 = .ok (.iload_n 0, 1) := by decide +kernel
theorem dL_name_19 : decode cL_name 19 = .ok (.iconst 5, 1) := by decide +kernel
theorem dL_name_20 : decode cL_name 20 = .ok (.iload_n 1, 1) := by decide +kernel
theorem dL_name_21 : decode cL_name 21 = .ok (.iadd, 1) := by decide +kernel
theorem dL_name_22 : decode cL_name 22 = .ok (.idiv, 1) := by decide +kernel
theorem dL_name_23 : decode cL_name 23 = .ok (.bipush 6, 2) := by decide +kernel
theorem dL_name_25 : decode cL_name 25 = .ok (.irem, 1) := by decide +kernel
theorem dL_name_26 : decode cL_name 26 = .ok (.ifCond .ne 8, 3) := by decide +kernel
theorem dL_name_29 : decode cL_name 29 = .ok (.bipush 32, 2) := by decide +kernel
theorem dL_name_31 : decode cL_name 31 = .ok (.goto 26, 3) := by decide +kernel
theorem dL_name_34 : decode cL_name 34 = .ok (.bipush 65, 2) := by decide +kernel
theorem dL_name_36 : decode cL_name 36 = .ok (.iload_n 0, 1) := by decide +kernel
theorem dL_name_37 : decode cL_name 37 = .ok (.iconst 3, 1) := by decide +kernel
theorem dL_name_38 : decode cL_name 38 = .ok (.iconst 2, 1) := by decide +kernel
theorem dL_name_39 : decode cL_name 39 = .ok (.iload_n 1, 1) := by decide +kernel
theorem dL_name_40 : decode cL_name 40 = .ok (.imul, 1) := by decide +kernel
theorem dL_name_41 : decode cL_name 41 = .ok (.iadd, 1) := by decide +kernel
theorem dL_name_42 : decode cL_name 42 = .ok (.idiv, 1) := by decide +kernel
theorem dL_name_43 : decode cL_name 43 = .ok (.iload_n 0, 1) := by decide +kernel
theorem dL_name_44 : decode cL_name 44 = .ok (.iconst 3, 1) := by decide +kernel
theorem dL_name_45 : decode cL_name 45 = .ok (.irem, 1) := by decide +kernel
theorem dL_name_46 : decode cL_name 46 = .ok (.ifCond .ne 8, 3) := by decide +kernel
theorem dL_name_49 : decode cL_name 49 = .ok (.bipush 26, 2) := by decide +kernel
theorem dL_name_51 : decode cL_name 51 = .ok (.goto 4, 3) := by decide +kernel
theorem dL_name_54 : decode cL_name 54 = .ok (.iconst 4, 1) := by decide +kernel
theorem dL_name_55 : decode cL_name 55 = .ok (.irem, 1) := by decide +kernel
theorem dL_name_56 : decode cL_name 56 = .ok (.iadd, 1) := by decide +kernel
theorem dL_name_57 : decode cL_name 57 = .ok (.ireturn, 1) := by decide +kernel
theorem dL_moved_0 : decode cL_moved 0 = .ok (.iload_n 0, 1) := by decide +kernel
theorem dL_moved_1 : decode cL_moved 1 = .ok (.iconst 1, 1) := by decide +kernel
theorem dL_moved_2 : decode cL_moved 2 = .ok (.iload_n 1, 1) := by decide +kernel
theorem dL_moved_3 : decode cL_moved 3 = .ok (.ishl, 1) := by decide +kernel
theorem dL_moved_4 : decode cL_moved 4 = .ok (.iconst 1, 1) := by decide +kernel
theorem dL_moved_5 : decode cL_moved 5 = .ok (.isub, 1) := by decide +kernel
theorem dL_moved_6 : decode cL_moved 6 = .ok (.iand, 1) := by decide +kernel
theorem dL_moved_7 : decode cL_moved 7 = .ok (.istore_n 2, 1) := by decide +kernel
theorem dL_moved_8 : decode cL_moved 8 = .ok (.iload_n 2, 1) := by decide +kernel
theorem dL_moved_9 : decode cL_moved 9 = .ok (.iload_n 0, 1) := by decide +kernel
theorem dL_moved_10 : decode cL_moved 10 = .ok (.iload_n 2, 1) := by decide +kernel
theorem dL_moved_11 : decode cL_moved 11 = .ok (.isub, 1) := by decide +kernel
theorem dL_moved_12 : decode cL_moved 12 = .ok (.iload_n 1, 1) := by decide +kernel
theorem dL_moved_13 : decode cL_moved 13 = .ok (.iconst 1, 1) := by decide +kernel
theorem dL_moved_14 : decode cL_moved 14 = .ok (.iadd, 1) := by decide +kernel
theorem dL_moved_15 : decode cL_moved 15 = .ok (.ishr, 1) := by decide +kernel
theorem dL_moved_16 : decode cL_moved 16 = .ok (.iload_n 1, 1) := by decide +kernel
theorem dL_moved_17 : decode cL_moved 17 = .ok (.ishl, 1) := by decide +kernel
theorem dL_moved_18 : decode cL_moved 18 = .ok (.iadd, 1) := by decide +kernel
theorem dL_moved_19 : decode cL_moved 19 = .ok (.ireturn, 1) := by decide +kernel
theorem dL_isSo_0 : decode cL_isSo 0 = .ok (.aload_n 0, 1) := by decide +kernel
theorem dL_isSo_1 : decode cL_isSo 1 = .ok (.aload_n 1, 1) := by decide +kernel
theorem dL_isSo_2 : decode cL_isSo 2 = .ok (.aload_n 2, 1) := by decide +kernel
theorem dL_isSo_3 : decode cL_isSo 3 = .ok (.aload_n 3, 1) := by decide +kernel
theorem dL_isSo_4 : decode cL_isSo 4 = .ok (.aload 4, 2) := by decide +kernel
theorem dL_isSo_6 : decode cL_isSo 6 = .ok (.aload 5, 2) := by decide +kernel
theorem dL_isSo_8 : decode cL_isSo 8 = .ok (.aload 6, 2) := by decide +kernel
theorem dL_isSo_10 : decode cL_isSo 10 = .ok (.invokestatic 129, 3) := by decide +kernel
theorem dL_isSo_13 : decode cL_isSo 13 = .ok (.ifCond .eq 205, 3) := by decide +kernel
theorem dL_isSo_16 : decode cL_isSo 16 = .ok (.aload_n 0, 1) := by decide +kernel
theorem dL_isSo_17 : decode cL_isSo 17 = .ok (.aload_n 1, 1) := by decide +kernel
theorem dL_isSo_18 : decode cL_isSo 18 = .ok (.aload 4, 2) := by decide +kernel
theorem dL_isSo_20 : decode cL_isSo 20 = .ok (.aload 6, 2) := by decide +kernel
theorem dL_isSo_22 : decode cL_isSo 22 = .ok (.invokestatic 133, 3) := by decide +kernel
theorem dL_isSo_25 : decode cL_isSo 25 = .ok (.ifCond .eq 193, 3) := by decide +kernel
theorem dL_isSo_28 : decode cL_isSo 28 = .ok (.aload_n 0, 1) := by decide +kernel
theorem dL_isSo_29 : decode cL_isSo 29 = .ok (.iconst 0, 1) := by decide +kernel
theorem dL_isSo_30 : decode cL_isSo 30 = .ok (.invokevirtual 123, 3) := by decide +kernel
theorem dL_isSo_33 : decode cL_isSo 33 = .ok (.aload_n 1, 1) := by decide +kernel
theorem dL_isSo_34 : decode cL_isSo 34 = .ok (.iconst 0, 1) := by decide +kernel
theorem dL_isSo_35 : decode cL_isSo 35 = .ok (.iaload, 1) := by decide +kernel
theorem dL_isSo_36 : decode cL_isSo 36 = .ok (.if_icmp .ne 182, 3) := by decide +kernel
theorem dL_isSo_39 : decode cL_isSo 39 = .ok (.aload_n 0, 1) := by decide +kernel
theorem dL_isSo_40 : decode cL_isSo 40 = .ok (.iconst 1, 1) := by decide +kernel
theorem dL_isSo_41 : decode cL_isSo 41 = .ok (.invokevirtual 123, 3) := by decide +kernel
theorem dL_isSo_44 : decode cL_isSo 44 = .ok (.aload_n 1, 1) := by decide +kernel
theorem dL_isSo_45 : decode cL_isSo 45 = .ok (.iconst 1, 1) := by decide +kernel
theorem dL_isSo_46 : decode cL_isSo 46 = .ok (.iaload, 1) := by decide +kernel
theorem dL_isSo_47 : decode cL_isSo 47 = .ok (.ifCond .ge 8, 3) := by decide +kernel
theorem dL_isSo_50 : decode cL_isSo 50 = .ok (.ldc 60, 2) := by decide +kernel
theorem dL_isSo_52 : decode cL_isSo 52 = .ok (.goto 6, 3) := by decide +kernel
theorem dL_isSo_55 : decode cL_isSo 55 = .ok (.aload_n 1, 1) := by decide +kernel
theorem dL_isSo_56 : decode cL_isSo 56 = .ok (.iconst 1, 1) := by decide +kernel
theorem dL_isSo_57 : decode cL_isSo 57 = .ok (.iaload, 1) := by decide +kernel
theorem dL_isSo_58 : decode cL_isSo 58 = .ok (.if_icmp .ne 160, 3) := by decide +kernel
theorem dL_isSo_61 : decode cL_isSo 61 = .ok (.aload_n 0, 1) := by decide +kernel
theorem dL_isSo_62 : decode cL_isSo 62 = .ok (.iconst 2, 1) := by decide +kernel
theorem dL_isSo_63 : decode cL_isSo 63 = .ok (.invokevirtual 123, 3) := by decide +kernel
theorem dL_isSo_66 : decode cL_isSo 66 = .ok (.aload_n 1, 1) := by decide +kernel
theorem dL_isSo_67 : decode cL_isSo 67 = .ok (.iconst 2, 1) := by decide +kernel
theorem dL_isSo_68 : decode cL_isSo 68 = .ok (.iaload, 1) := by decide +kernel
theorem dL_isSo_69 : decode cL_isSo 69 = .ok (.if_icmp .ne 149, 3) := by decide +kernel
theorem dL_isSo_72 : decode cL_isSo 72 = .ok (.aload_n 0, 1) := by decide +kernel
theorem dL_isSo_73 : decode cL_isSo 73 = .ok (.iconst 3, 1) := by decide +kernel
theorem dL_isSo_74 : decode cL_isSo 74 = .ok (.invokevirtual 123, 3) := by decide +kernel
theorem dL_isSo_77 : decode cL_isSo 77 = .ok (.aload_n 1, 1) := by decide +kernel
theorem dL_isSo_78 : decode cL_isSo 78 = .ok (.iconst 3, 1) := by decide +kernel
theorem dL_isSo_79 : decode cL_isSo 79 = .ok (.iaload, 1) := by decide +kernel
theorem dL_isSo_80 : decode cL_isSo 80 = .ok (.ifCond .ge 8, 3) := by decide +kernel
theorem dL_isSo_83 : decode cL_isSo 83 = .ok (.ldc 60, 2) := by decide +kernel
theorem dL_isSo_85 : decode cL_isSo 85 = .ok (.goto 6, 3) := by decide +kernel
theorem dL_isSo_88 : decode cL_isSo 88 = .ok (.aload_n 1, 1) := by decide +kernel
theorem dL_isSo_89 : decode cL_isSo 89 = .ok (.iconst 3, 1) := by decide +kernel
theorem dL_isSo_90 : decode cL_isSo 90 = .ok (.iaload, 1) := by decide +kernel
theorem dL_isSo_91 : decode cL_isSo 91 = .ok (.if_icmp .ne 127, 3) := by decide +kernel
theorem dL_isSo_94 : decode cL_isSo 94 = .ok (.aload_n 0, 1) := by decide +kernel
theorem dL_isSo_95 : decode cL_isSo 95 = .ok (.iconst 5, 1) := by decide +kernel
theorem dL_isSo_96 : decode cL_isSo 96 = .ok (.invokevirtual 123, 3) := by decide +kernel
theorem dL_isSo_99 : decode cL_isSo 99 = .ok (.aload_n 1, 1) := by decide +kernel
theorem dL_isSo_100 : decode cL_isSo 100 = .ok (.iconst 4, 1) := by decide +kernel
theorem dL_isSo_101 : decode cL_isSo 101 = .ok (.iaload, 1) := by decide +kernel
theorem dL_isSo_102 : decode cL_isSo 102 = .ok (.if_icmp .ne 116, 3) := by decide +kernel
theorem dL_isSo_105 : decode cL_isSo 105 = .ok (.aload_n 0, 1) := by decide +kernel
theorem dL_isSo_106 : decode cL_isSo 106 = .ok (.bipush 6, 2) := by decide +kernel
theorem dL_isSo_108 : decode cL_isSo 108 = .ok (.invokevirtual 123, 3) := by decide +kernel
theorem dL_isSo_111 : decode cL_isSo 111 = .ok (.aload_n 1, 1) := by decide +kernel
theorem dL_isSo_112 : decode cL_isSo 112 = .ok (.iconst 5, 1) := by decide +kernel
theorem dL_isSo_113 : decode cL_isSo 113 = .ok (.iaload, 1) := by decide +kernel
theorem dL_isSo_114 : decode cL_isSo 114 = .ok (.if_icmp .ne 104, 3) := by decide +kernel
theorem dL_isSo_117 : decode cL_isSo 117 = .ok (.aload_n 0, 1) := by decide +kernel
theorem dL_isSo_118 : decode cL_isSo 118 = .ok (.bipush 7, 2) := by decide +kernel
theorem dL_isSo_120 : decode cL_isSo 120 = .ok (.invokevirtual 123, 3) := by decide +kernel
theorem dL_isSo_123 : decode cL_isSo 123 = .ok (.aload_n 1, 1) := by decide +kernel
theorem dL_isSo_124 : decode cL_isSo 124 = .ok (.bipush 6, 2) := by decide +kernel
theorem dL_isSo_126 : decode cL_isSo 126 = .ok (.iaload, 1) := by decide +kernel
theorem dL_isSo_127 : decode cL_isSo 127 = .ok (.if_icmp .ne 91, 3) := by decide +kernel
theorem dL_isSo_130 : decode cL_isSo 130 = .ok (.aload_n 0, 1) := by decide +kernel
theorem dL_isSo_131 : decode cL_isSo 131 = .ok (.bipush 8, 2) := by decide +kernel
theorem dL_isSo_133 : decode cL_isSo 133 = .ok (.invokevirtual 123, 3) := by decide +kernel
theorem dL_isSo_136 : decode cL_isSo 136 = .ok (.aload_n 1, 1) := by decide +kernel
theorem dL_isSo_137 : decode cL_isSo 137 = .ok (.bipush 7, 2) := by decide +kernel
theorem dL_isSo_139 : decode cL_isSo 139 = .ok (.iaload, 1) := by decide +kernel
theorem dL_isSo_140 : decode cL_isSo 140 = .ok (.if_icmp .ne 78, 3) := by decide +kernel
theorem dL_isSo_143 : decode cL_isSo 143 = .ok (.aload_n 0, 1) := by decide +kernel
theorem dL_isSo_144 : decode cL_isSo 144 = .ok (.bipush 9, 2) := by decide +kernel
theorem dL_isSo_146 : decode cL_isSo 146 = .ok (.invokevirtual 123, 3) := by decide +kernel
theorem dL_isSo_149 : decode cL_isSo 149 = .ok (.aload_n 1, 1) := by decide +kernel
theorem dL_isSo_150 : decode cL_isSo 150 = .ok (.aload_n 2, 1) := by decide +kernel
theorem dL_isSo_151 : decode cL_isSo 151 = .ok (.aload 4, 2) := by decide +kernel
theorem dL_isSo_153 : decode cL_isSo 153 = .ok (.aload 5, 2) := by decide +kernel
theorem dL_isSo_155 : decode cL_isSo 155 = .ok (.aload 6, 2) := by decide +kernel
theorem dL_isSo_157 : decode cL_isSo 157 = .ok (.aload_n 1, 1) := by decide +kernel
theorem dL_isSo_158 : decode cL_isSo 158 = .ok (.iconst 1, 1) := by decide +kernel
theorem dL_isSo_159 : decode cL_isSo 159 = .ok (.iaload, 1) := by decide +kernel
theorem dL_isSo_160 : decode cL_isSo 160 = .ok (.invokestatic 107, 3) := by decide +kernel
theorem dL_isSo_163 : decode cL_isSo 163 = .ok (.if_icmp .ne 55, 3) := by decide +kernel
theorem dL_isSo_166 : decode cL_isSo 166 = .ok (.aload_n 0, 1) := by decide +kernel
theorem dL_isSo_167 : decode cL_isSo 167 = .ok (.bipush 12, 2) := by decide +kernel
theorem dL_isSo_169 : decode cL_isSo 169 = .ok (.invokevirtual 123, 3) := by decide +kernel
theorem dL_isSo_172 : decode cL_isSo 172 = .ok (.ifCond .ne 46, 3) := by decide +kernel
theorem dL_isSo_175 : decode cL_isSo 175 = .ok (.aload_n 0, 1) := by decide +kernel
theorem dL_isSo_176 : decode cL_isSo 176 = .ok (.bipush 20, 2) := by decide +kernel
theorem dL_isSo_178 : decode cL_isSo 178 = .ok (.invokevirtual 123, 3) := by decide +kernel
theorem dL_isSo_181 : decode cL_isSo 181 = .ok (.aload_n 1, 1) := by decide +kernel
theorem dL_isSo_182 : decode cL_isSo 182 = .ok (.bipush 8, 2) := by decide +kernel
theorem dL_isSo_184 : decode cL_isSo 184 = .ok (.iaload, 1) := by decide +kernel
theorem dL_isSo_185 : decode cL_isSo 185 = .ok (.if_icmp .ne 33, 3) := by decide +kernel
theorem dL_isSo_188 : decode cL_isSo 188 = .ok (.aload_n 0, 1) := by decide +kernel
theorem dL_isSo_189 : decode cL_isSo 189 = .ok (.bipush 21, 2) := by decide +kernel
theorem dL_isSo_191 : decode cL_isSo 191 = .ok (.invokevirtual 123, 3) := by decide +kernel
theorem dL_isSo_194 : decode cL_isSo 194 = .ok (.aload_n 1, 1) := by decide +kernel
theorem dL_isSo_195 : decode cL_isSo 195 = .ok (.bipush 9, 2) := by decide +kernel
theorem dL_isSo_197 : decode cL_isSo 197 = .ok (.iaload, 1) := by decide +kernel
theorem dL_isSo_198 : decode cL_isSo 198 = .ok (.if_icmp .ne 20, 3) := by decide +kernel
theorem dL_isSo_201 : decode cL_isSo 201 = .ok (.aload_n 0, 1) := by decide +kernel
theorem dL_isSo_202 : decode cL_isSo 202 = .ok (.bipush 22, 2) := by decide +kernel
theorem dL_isSo_204 : decode cL_isSo 204 = .ok (.invokevirtual 123, 3) := by decide +kernel
theorem dL_isSo_207 : decode cL_isSo 207 = .ok (.aload_n 1, 1) := by decide +kernel
theorem dL_isSo_208 : decode cL_isSo 208 = .ok (.bipush 10, 2) := by decide +kernel
theorem dL_isSo_210 : decode cL_isSo 210 = .ok (.iaload, 1) := by decide +kernel
theorem dL_isSo_211 : decode cL_isSo 211 = .ok (.if_icmp .ne 7, 3) := by decide +kernel
theorem dL_isSo_214 : decode cL_isSo 214 = .ok (.iconst 1, 1) := by decide +kernel
theorem dL_isSo_215 : decode cL_isSo 215 = .ok (.goto 4, 3) := by decide +kernel
theorem dL_isSo_218 : decode cL_isSo 218 = .ok (.iconst 0, 1) := by decide +kernel
theorem dL_isSo_219 : decode cL_isSo 219 = .ok (.ireturn, 1) := by decide +kernel

