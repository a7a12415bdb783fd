theorem dX6_init_0 : decode cX6_init 0 = .ok (.aload_n 0, 1) := by decide +kernel
theorem dX6_init_1 : decode cX6_init 1 = .ok (.invokespecial 1, 3) := by decide +kernel
theorem dX6_init_4 : decode cX6_init 4 = .ok (.aload_n 0, 1) := by decide +kernel
theorem dX6_init_5 : decode cX6_init 5 = .ok (.new 7, 3) := by decide +kernel
theorem dX6_init_8 : decode cX6_init 8 = .ok (.dup, 1) := by decide +kernel
theorem dX6_init_9 : decode cX6_init 9 = .ok (.invokespecial 9, 3) := by decide +kernel
theorem dX6_init_12 : decode cX6_init 12 = .ok (.putfield 10, 3) := by decide +kernel
theorem dX6_init_15 : decode cX6_init 15 = .ok (.aload_n 0, 1) := by decide +kernel
theorem dX6_init_16 : decode cX6_init 16 = .ok (.sipush 256, 3) := by decide +kernel
theorem dX6_init_19 : decode cX6_init 19 = .ok (.newarray .boolean, 2) := by decide +kernel
theorem dX6_init_21 : decode cX6_init 21 = .ok (.putfield 16, 3) := by decide +kernel
theorem dX6_init_24 : decode cX6_init 24 = .ok (.aload_n 0, 1) := by decide +kernel
theorem dX6_init_25 : decode cX6_init 25 = .ok (.new 20, 3) := by decide +kernel
theorem dX6_init_28 : decode cX6_init 28 = .ok (.dup, 1) := by decide +kernel
theorem dX6_init_29 : decode cX6_init 29 = .ok (.invokespecial 22, 3) := by decide +kernel
theorem dX6_init_32 : decode cX6_init 32 = .ok (.putfield 23, 3) := by decide +kernel
theorem dX6_init_35 : decode cX6_init 35 = .ok (.aload_n 0, 1) := by decide +kernel
theorem dX6_init_36 : decode cX6_init 36 = .ok (.bipush 6, 2) := by decide +kernel
theorem dX6_init_38 : decode cX6_init 38 = .ok (.anewarray 27, 3) := by decide +kernel
theorem dX6_init_41 : decode cX6_init 41 = .ok (.putfield 29, 3) := by decide +kernel
theorem dX6_init_44 : decode cX6_init 44 = .ok (.iconst 0, 1) := by decide +kernel
theorem dX6_init_45 : decode cX6_init 45 = .ok (.istore_n 1, 1) := by decide +kernel
theorem dX6_init_46 : decode cX6_init 46 = .ok (.iload_n 1, 1) := by decide +kernel
theorem dX6_init_47 : decode cX6_init 47 = .ok (.bipush 6, 2) := by decide +kernel
theorem dX6_init_49 : decode cX6_init 49 = .ok (.if_icmp .ge 22, 3) := by decide +kernel
theorem dX6_init_52 : decode cX6_init 52 = .ok (.aload_n 0, 1) := by decide +kernel
theorem dX6_init_53 : decode cX6_init 53 = .ok (.getfield 29, 3) := by decide +kernel
theorem dX6_init_56 : decode cX6_init 56 = .ok (.iload_n 1, 1) := by decide +kernel
theorem dX6_init_57 : decode cX6_init 57 = .ok (.new 27, 3) := by decide +kernel
theorem dX6_init_60 : decode cX6_init 60 = .ok (.dup, 1) := by decide +kernel
theorem dX6_init_61 : decode cX6_init 61 = .ok (.invokespecial 33, 3) := by decide +kernel
theorem dX6_init_64 : decode cX6_init 64 = .ok (.aastore, 1) := by decide +kernel
theorem dX6_init_65 : decode cX6_init 65 = .ok (.iinc 1 1, 3) := by decide +kernel
theorem dX6_init_68 : decode cX6_init 68 = .ok (.goto (-22), 3) := by decide +kernel
theorem dX6_init_71 : decode cX6_init 71 = .ok (.aload_n 0, 1) := by decide +kernel
theorem dX6_init_72 : decode cX6_init 72 = .ok (.new 34, 3) := by decide +kernel
theorem dX6_init_75 : decode cX6_init 75 = .ok (.dup, 1) := by decide +kernel
theorem dX6_init_76 : decode cX6_init 76 = .ok (.invokespecial 36, 3) := by decide +kernel
theorem dX6_init_79 : decode cX6_init 79 = .ok (.putfield 37, 3) := by decide +kernel
theorem dX6_init_82 : decode cX6_init 82 = .ok (.aload_n 0, 1) := by decide +kernel
theorem dX6_init_83 : decode cX6_init 83 = .ok (.new 41, 3) := by decide +kernel
theorem dX6_init_86 : decode cX6_init 86 = .ok (.dup, 1) := by decide +kernel
theorem dX6_init_87 : decode cX6_init 87 = .ok (.invokespecial 43, 3) := by decide +kernel
theorem dX6_init_90 : decode cX6_init 90 = .ok (.putfield 44, 3) := by decide +kernel
theorem dX6_init_93 : decode cX6_init 93 = .ok (.aload_n 0, 1) := by decide +kernel
theorem dX6_init_94 : decode cX6_init 94 = .ok (.new 48, 3) := by decide +kernel
theorem dX6_init_97 : decode cX6_init 97 = .ok (.dup, 1) := by decide +kernel
theorem dX6_init_98 : decode cX6_init 98 = .ok (.invokespecial 50, 3) := by decide +kernel
theorem dX6_init_101 : decode cX6_init 101 = .ok (.putfield 51, 3) := by decide +kernel
theorem dX6_init_104 : decode cX6_init 104 = .ok (.aload_n 0, 1) := by decide +kernel
theorem dX6_init_105 : decode cX6_init 105 = .ok (.bipush 13, 2) := by decide +kernel
theorem dX6_init_107 : decode cX6_init 107 = .ok (.putfield 55, 3) := by decide +kernel
theorem dX6_init_110 : decode cX6_init 110 = .ok (.return_, 1) := by decide +kernel
theorem dX6_category_0 : decode cX6_category 0 = .ok (.iload_n 1, 1) := by decide +kernel
theorem dX6_category_1 : decode cX6_category 1 = .ok (.invokestatic 59, 3) := by decide +kernel
theorem dX6_category_4 : decode cX6_category 4 = .ok (.ifCond .eq 13, 3) := by decide +kernel
theorem dX6_category_7 : decode cX6_category 7 = .ok (.iload_n 2, 1) := by decide +kernel
theorem dX6_category_8 : decode cX6_category 8 = .ok (.ifCond .lt 9, 3) := by decide +kernel
theorem dX6_category_11 : decode cX6_category 11 = .ok (.iload_n 2, 1) := by decide +kernel
theorem dX6_category_12 : decode cX6_category 12 = .ok (.bipush 16, 2) := by decide +kernel
theorem dX6_category_14 : decode cX6_category 14 = .ok (.if_icmp .lt 6, 3) := by decide +kernel
theorem dX6_category_17 : decode cX6_category 17 = .ok (.bipush (-2), 2) := by decide +kernel
theorem dX6_category_19 : decode cX6_category 19 = .ok (.ireturn, 1) := by decide +kernel
theorem dX6_category_20 : decode cX6_category 20 = .ok (.iload_n 3, 1) := by decide +kernel
theorem dX6_category_21 : decode cX6_category 21 = .ok (.ifCond .eq 15, 3) := by decide +kernel
theorem dX6_category_24 : decode cX6_category 24 = .ok (.aload_n 0, 1) := by decide +kernel
theorem dX6_category_25 : decode cX6_category 25 = .ok (.getfield 10, 3) := by decide +kernel
theorem dX6_category_28 : decode cX6_category 28 = .ok (.iload_n 1, 1) := by decide +kernel
theorem dX6_category_29 : decode cX6_category 29 = .ok (.iload_n 2, 1) := by decide +kernel
theorem dX6_category_30 : decode cX6_category 30 = .ok (.invokevirtual 63, 3) := by decide +kernel
theorem dX6_category_33 : decode cX6_category 33 = .ok (.goto 12, 3) := by decide +kernel
theorem dX6_category_36 : decode cX6_category 36 = .ok (.aload_n 0, 1) := by decide +kernel
theorem dX6_category_37 : decode cX6_category 37 = .ok (.getfield 10, 3) := by decide +kernel
theorem dX6_category_40 : decode cX6_category 40 = .ok (.iload_n 1, 1) := by decide +kernel
theorem dX6_category_41 : decode cX6_category 41 = .ok (.iload_n 2, 1) := by decide +kernel
theorem dX6_category_42 : decode cX6_category 42 = .ok (.invokevirtual 67, 3) := by decide +kernel
theorem dX6_category_45 : decode cX6_category 45 = .ok (.iconst 1, 1) := by decide +kernel
theorem dX6_category_46 : decode cX6_category 46 = .ok (.ireturn, 1) := by decide +kernel
theorem dX6_group_0 : decode cX6_group 0 = .ok (.iload_n 1, 1) := by decide +kernel
theorem dX6_group_1 : decode cX6_group 1 = .ok (.ifCond .eq 26, 3) := by decide +kernel
theorem dX6_group_4 : decode cX6_group 4 = .ok (.aload_n 0, 1) := by decide +kernel
theorem dX6_group_5 : decode cX6_group 5 = .ok (.getfield 10, 3) := by decide +kernel
theorem dX6_group_8 : decode cX6_group 8 = .ok (.invokevirtual 70, 3) := by decide +kernel
theorem dX6_group_11 : decode cX6_group 11 = .ok (.ifCond .eq 13, 3) := by decide +kernel
theorem dX6_group_14 : decode cX6_group 14 = .ok (.aload_n 0, 1) := by decide +kernel
theorem dX6_group_15 : decode cX6_group 15 = .ok (.getfield 10, 3) := by decide +kernel
theorem dX6_group_18 : decode cX6_group 18 = .ok (.getfield 74, 3) := by decide +kernel
theorem dX6_group_21 : decode cX6_group 21 = .ok (.goto 5, 3) := by decide +kernel
theorem dX6_group_24 : decode cX6_group 24 = .ok (.bipush (-4), 2) := by decide +kernel
theorem dX6_group_26 : decode cX6_group 26 = .ok (.ireturn, 1) := by decide +kernel
theorem dX6_group_27 : decode cX6_group 27 = .ok (.aload_n 0, 1) := by decide +kernel
theorem dX6_group_28 : decode cX6_group 28 = .ok (.getfield 10, 3) := by decide +kernel
theorem dX6_group_31 : decode cX6_group 31 = .ok (.invokevirtual 77, 3) := by decide +kernel
theorem dX6_group_34 : decode cX6_group 34 = .ok (.ifCond .eq 13, 3) := by decide +kernel
theorem dX6_group_37 : decode cX6_group 37 = .ok (.aload_n 0, 1) := by decide +kernel
theorem dX6_group_38 : decode cX6_group 38 = .ok (.getfield 10, 3) := by decide +kernel
theorem dX6_group_41 : decode cX6_group 41 = .ok (.getfield 74, 3) := by decide +kernel
theorem dX6_group_44 : decode cX6_group 44 = .ok (.goto 5, 3) := by decide +kernel
theorem dX6_group_47 : decode cX6_group 47 = .ok (.bipush (-3), 2) := by decide +kernel
theorem dX6_group_49 : decode cX6_group 49 = .ok (.ireturn, 1) := by decide +kernel
theorem dX6_endSign_0 : decode cX6_endSign 0 = .ok (.iload_n 1, 1) := by decide +kernel
theorem dX6_endSign_1 : decode cX6_endSign 1 = .ok (.iconst (-1), 1) := by decide +kernel
theorem dX6_endSign_2 : decode cX6_endSign 2 = .ok (.if_icmp .eq 13, 3) := by decide +kernel
theorem dX6_endSign_5 : decode cX6_endSign 5 = .ok (.iload_n 1, 1) := by decide +kernel
theorem dX6_endSign_6 : decode cX6_endSign 6 = .ok (.invokestatic 59, 3) := by decide +kernel
theorem dX6_endSign_9 : decode cX6_endSign 9 = .ok (.ifCond .ne 6, 3) := by decide +kernel
theorem dX6_endSign_12 : decode cX6_endSign 12 = .ok (.bipush (-2), 2) := by decide +kernel
theorem dX6_endSign_14 : decode cX6_endSign 14 = .ok (.ireturn, 1) := by decide +kernel
theorem dX6_endSign_15 : decode cX6_endSign 15 = .ok (.aload_n 0, 1) := by decide +kernel
theorem dX6_endSign_16 : decode cX6_endSign 16 = .ok (.iload_n 1, 1) := by decide +kernel
theorem dX6_endSign_17 : decode cX6_endSign 17 = .ok (.putfield 55, 3) := by decide +kernel
theorem dX6_endSign_20 : decode cX6_endSign 20 = .ok (.iconst 1, 1) := by decide +kernel
theorem dX6_endSign_21 : decode cX6_endSign 21 = .ok (.ireturn, 1) := by decide +kernel
theorem dX6_meaning_0 : decode cX6_meaning 0 = .ok (.iload_n 1, 1) := by decide +kernel
theorem dX6_meaning_1 : decode cX6_meaning 1 = .ok (.invokestatic 59, 3) := by decide +kernel
theorem dX6_meaning_4 : decode cX6_meaning 4 = .ok (.ifCond .ne 6, 3) := by decide +kernel
theorem dX6_meaning_7 : decode cX6_meaning 7 = .ok (.bipush (-2), 2) := by decide +kernel
theorem dX6_meaning_9 : decode cX6_meaning 9 = .ok (.ireturn, 1) := by decide +kernel
theorem dX6_meaning_10 : decode cX6_meaning 10 = .ok (.aload_n 0, 1) := by decide +kernel
theorem dX6_meaning_11 : decode cX6_meaning 11 = .ok (.getfield 16, 3) := by decide +kernel
theorem dX6_meaning_14 : decode cX6_meaning 14 = .ok (.iload_n 1, 1) := by decide +kernel
theorem dX6_meaning_15 : decode cX6_meaning 15 = .ok (.iload_n 2, 1) := by decide +kernel
theorem dX6_meaning_16 : decode cX6_meaning 16 = .ok (.bastore, 1) := by decide +kernel
theorem dX6_meaning_17 : decode cX6_meaning 17 = .ok (.iconst 1, 1) := by decide +kernel
theorem dX6_meaning_18 : decode cX6_meaning 18 = .ok (.ireturn, 1) := by decide +kernel
theorem dX6_file_0 : decode cX6_file 0 = .ok (.aload_n 0, 1) := by decide +kernel
theorem dX6_file_1 : decode cX6_file 1 = .ok (.getfield 23, 3) := by decide +kernel
theorem dX6_file_4 : decode cX6_file 4 = .ok (.invokevirtual 80, 3) := by decide +kernel
theorem dX6_file_7 : decode cX6_file 7 = .ok (.ireturn, 1) := by decide +kernel
theorem dX6_line_0 : decode cX6_line 0 = .ok (.aload_n 0, 1) := by decide +kernel
theorem dX6_line_1 : decode cX6_line 1 = .ok (.getfield 23, 3) := by decide +kernel
theorem dX6_line_4 : decode cX6_line 4 = .ok (.iload_n 1, 1) := by decide +kernel
theorem dX6_line_5 : decode cX6_line 5 = .ok (.invokevirtual 84, 3) := by decide +kernel
theorem dX6_line_8 : decode cX6_line 8 = .ok (.ifCond .eq 14, 3) := by decide +kernel
theorem dX6_line_11 : decode cX6_line 11 = .ok (.aload_n 0, 1) := by decide +kernel
theorem dX6_line_12 : decode cX6_line 12 = .ok (.getfield 23, 3) := by decide +kernel
theorem dX6_line_15 : decode cX6_line 15 = .ok (.iload_n 1, 1) := by decide +kernel
theorem dX6_line_16 : decode cX6_line 16 = .ok (.invokevirtual 87, 3) := by decide +kernel
theorem dX6_line_19 : decode cX6_line 19 = .ok (.goto 4, 3) := by decide +kernel
theorem dX6_line_22 : decode cX6_line 22 = .ok (.iconst (-1), 1) := by decide +kernel
theorem dX6_line_23 : decode cX6_line 23 = .ok (.ireturn, 1) := by decide +kernel
theorem dX6_add_0 : decode cX6_add 0 = .ok (.aload_n 0, 1) := by decide +kernel
theorem dX6_add_1 : decode cX6_add 1 = .ok (.getfield 23, 3) := by decide +kernel
theorem dX6_add_4 : decode cX6_add 4 = .ok (.iload_n 1, 1) := by decide +kernel
theorem dX6_add_5 : decode cX6_add 5 = .ok (.invokevirtual 84, 3) := by decide +kernel
theorem dX6_add_8 : decode cX6_add 8 = .ok (.ifCond .ne 5, 3) := by decide +kernel
theorem dX6_add_11 : decode cX6_add 11 = .ok (.iconst (-1), 1) := by decide +kernel
theorem dX6_add_12 : decode cX6_add 12 = .ok (.ireturn, 1) := by decide +kernel
theorem dX6_add_13 : decode cX6_add 13 = .ok (.iload 4, 2) := by decide +kernel
theorem dX6_add_15 : decode cX6_add 15 = .ok (.iconst 1, 1) := by decide +kernel
theorem dX6_add_16 : decode cX6_add 16 = .ok (.if_icmp .lt 10, 3) := by decide +kernel
theorem dX6_add_19 : decode cX6_add 19 = .ok (.iload 4, 2) := by decide +kernel
theorem dX6_add_21 : decode cX6_add 21 = .ok (.bipush 8, 2) := by decide +kernel
theorem dX6_add_23 : decode cX6_add 23 = .ok (.if_icmp .le 6, 3) := by decide +kernel
theorem dX6_add_26 : decode cX6_add 26 = .ok (.bipush (-2), 2) := by decide +kernel
theorem dX6_add_28 : decode cX6_add 28 = .ok (.ireturn, 1) := by decide +kernel
theorem dX6_add_29 : decode cX6_add 29 = .ok (.aload_n 0, 1) := by decide +kernel
theorem dX6_add_30 : decode cX6_add 30 = .ok (.getfield 23, 3) := by decide +kernel
theorem dX6_add_33 : decode cX6_add 33 = .ok (.iload_n 1, 1) := by decide +kernel
theorem dX6_add_34 : decode cX6_add 34 = .ok (.lload_n 2, 1) := by decide +kernel
theorem dX6_add_35 : decode cX6_add 35 = .ok (.iload 4, 2) := by decide +kernel
theorem dX6_add_37 : decode cX6_add 37 = .ok (.invokevirtual 91, 3) := by decide +kernel
theorem dX6_add_40 : decode cX6_add 40 = .ok (.ireturn, 1) := by decide +kernel
theorem dX6_open_0 : decode cX6_open 0 = .ok (.aload_n 0, 1) := by decide +kernel
theorem dX6_open_1 : decode cX6_open 1 = .ok (.getfield 23, 3) := by decide +kernel
theorem dX6_open_4 : decode cX6_open 4 = .ok (.iload_n 1, 1) := by decide +kernel
theorem dX6_open_5 : decode cX6_open 5 = .ok (.invokevirtual 84, 3) := by decide +kernel
theorem dX6_open_8 : decode cX6_open 8 = .ok (.ifCond .ne 5, 3) := by decide +kernel
theorem dX6_open_11 : decode cX6_open 11 = .ok (.iconst (-1), 1) := by decide +kernel
theorem dX6_open_12 : decode cX6_open 12 = .ok (.ireturn, 1) := by decide +kernel
theorem dX6_open_13 : decode cX6_open 13 = .ok (.aload_n 0, 1) := by decide +kernel
theorem dX6_open_14 : decode cX6_open 14 = .ok (.getfield 95, 3) := by decide +kernel
theorem dX6_open_17 : decode cX6_open 17 = .ok (.ifCond .lt 15, 3) := by decide +kernel
theorem dX6_open_20 : decode cX6_open 20 = .ok (.aload_n 0, 1) := by decide +kernel
theorem dX6_open_21 : decode cX6_open 21 = .ok (.getfield 95, 3) := by decide +kernel
theorem dX6_open_24 : decode cX6_open 24 = .ok (.aload_n 0, 1) := by decide +kernel
theorem dX6_open_25 : decode cX6_open 25 = .ok (.getfield 29, 3) := by decide +kernel
theorem dX6_open_28 : decode cX6_open 28 = .ok (.arraylength, 1) := by decide +kernel
theorem dX6_open_29 : decode cX6_open 29 = .ok (.if_icmp .lt 6, 3) := by decide +kernel
theorem dX6_open_32 : decode cX6_open 32 = .ok (.bipush (-4), 2) := by decide +kernel
theorem dX6_open_34 : decode cX6_open 34 = .ok (.ireturn, 1) := by decide +kernel
theorem dX6_open_35 : decode cX6_open 35 = .ok (.aload_n 0, 1) := by decide +kernel
theorem dX6_open_36 : decode cX6_open 36 = .ok (.getfield 29, 3) := by decide +kernel
theorem dX6_open_39 : decode cX6_open 39 = .ok (.aload_n 0, 1) := by decide +kernel
theorem dX6_open_40 : decode cX6_open 40 = .ok (.getfield 95, 3) := by decide +kernel
theorem dX6_open_43 : decode cX6_open 43 = .ok (.aaload, 1) := by decide +kernel
theorem dX6_open_44 : decode cX6_open 44 = .ok (.iload_n 1, 1) := by decide +kernel
theorem dX6_open_45 : decode cX6_open 45 = .ok (.invokevirtual 98, 3) := by decide +kernel
theorem dX6_open_48 : decode cX6_open 48 = .ok (.aload_n 0, 1) := by decide +kernel
theorem dX6_open_49 : decode cX6_open 49 = .ok (.dup, 1) := by decide +kernel
theorem dX6_open_50 : decode cX6_open 50 = .ok (.getfield 95, 3) := by decide +kernel
theorem dX6_open_53 : decode cX6_open 53 = .ok (.iconst 1, 1) := by decide +kernel
theorem dX6_open_54 : decode cX6_open 54 = .ok (.iadd, 1) := by decide +kernel
theorem dX6_open_55 : decode cX6_open 55 = .ok (.putfield 95, 3) := by decide +kernel
theorem dX6_open_58 : decode cX6_open 58 = .ok (.aload_n 0, 1) := by decide +kernel
theorem dX6_open_59 : decode cX6_open 59 = .ok (.getfield 95, 3) := by decide +kernel
theorem dX6_open_62 : decode cX6_open 62 = .ok (.ireturn, 1) := by decide +kernel
theorem dX6_close_0 : decode cX6_close 0 = .ok (.aload_n 0, 1) := by decide +kernel
theorem dX6_close_1 : decode cX6_close 1 = .ok (.invokevirtual 102, 3) := by decide +kernel
theorem dX6_close_4 : decode cX6_close 4 = .ok (.astore_n 1, 1) := by decide +kernel
theorem dX6_close_5 : decode cX6_close 5 = .ok (.aload_n 1, 1) := by decide +kernel
theorem dX6_close_6 : decode cX6_close 6 = .ok (.ifnonnull 6, 3) := by decide +kernel
theorem dX6_close_9 : decode cX6_close 9 = .ok (.bipush (-3), 2) := by decide +kernel
theorem dX6_close_11 : decode cX6_close 11 = .ok (.ireturn, 1) := by decide +kernel
theorem dX6_close_12 : decode cX6_close 12 = .ok (.aload_n 1, 1) := by decide +kernel
theorem dX6_close_13 : decode cX6_close 13 = .ok (.iconst 1, 1) := by decide +kernel
theorem dX6_close_14 : decode cX6_close 14 = .ok (.putfield 106, 3) := by decide +kernel
theorem dX6_close_17 : decode cX6_close 17 = .ok (.iconst 1, 1) := by decide +kernel
theorem dX6_close_18 : decode cX6_close 18 = .ok (.ireturn, 1) := by decide +kernel
theorem dX6_next_0 : decode cX6_next 0 = .ok (.aload_n 0, 1) := by decide +kernel
theorem dX6_next_1 : decode cX6_next 1 = .ok (.invokevirtual 110, 3) := by decide +kernel
theorem dX6_next_4 : decode cX6_next 4 = .ok (.istore_n 1, 1) := by decide +kernel
theorem dX6_next_5 : decode cX6_next 5 = .ok (.iload_n 1, 1) := by decide +kernel
theorem dX6_next_6 : decode cX6_next 6 = .ok (.ifCond .ge 5, 3) := by decide +kernel
theorem dX6_next_9 : decode cX6_next 9 = .ok (.iload_n 1, 1) := by decide +kernel
theorem dX6_next_10 : decode cX6_next 10 = .ok (.ireturn, 1) := by decide +kernel
theorem dX6_next_11 : decode cX6_next 11 = .ok (.iconst 0, 1) := by decide +kernel
theorem dX6_next_12 : decode cX6_next 12 = .ok (.istore_n 2, 1) := by decide +kernel
theorem dX6_next_13 : decode cX6_next 13 = .ok (.iload_n 2, 1) := by decide +kernel
theorem dX6_next_14 : decode cX6_next 14 = .ok (.ldc 113, 2) := by decide +kernel
theorem dX6_next_16 : decode cX6_next 16 = .ok (.if_icmp .ge 52, 3) := by decide +kernel
theorem dX6_next_19 : decode cX6_next 19 = .ok (.aload_n 0, 1) := by decide +kernel
theorem dX6_next_20 : decode cX6_next 20 = .ok (.invokevirtual 114, 3) := by decide +kernel
theorem dX6_next_23 : decode cX6_next 23 = .ok (.astore_n 3, 1) := by decide +kernel
theorem dX6_next_24 : decode cX6_next 24 = .ok (.aload_n 3, 1) := by decide +kernel
theorem dX6_next_25 : decode cX6_next 25 = .ok (.ifnonnull 6, 3) := by decide +kernel
theorem dX6_next_28 : decode cX6_next 28 = .ok (.bipush (-3), 2) := by decide +kernel
theorem dX6_next_30 : decode cX6_next 30 = .ok (.ireturn, 1) := by decide +kernel
theorem dX6_next_31 : decode cX6_next 31 = .ok (.aload_n 3, 1) := by decide +kernel
theorem dX6_next_32 : decode cX6_next 32 = .ok (.invokevirtual 117, 3) := by decide +kernel
theorem dX6_next_35 : decode cX6_next 35 = .ok (.ifCond .le 11, 3) := by decide +kernel
theorem dX6_next_38 : decode cX6_next 38 = .ok (.aload_n 0, 1) := by decide +kernel
theorem dX6_next_39 : decode cX6_next 39 = .ok (.aload_n 3, 1) := by decide +kernel
theorem dX6_next_40 : decode cX6_next 40 = .ok (.invokevirtual 120, 3) := by decide +kernel
theorem dX6_next_43 : decode cX6_next 43 = .ok (.goto 7, 3) := by decide +kernel
theorem dX6_next_46 : decode cX6_next 46 = .ok (.aload_n 3, 1) := by decide +kernel
theorem dX6_next_47 : decode cX6_next 47 = .ok (.invokestatic 124, 3) := by decide +kernel
theorem dX6_next_50 : decode cX6_next 50 = .ok (.istore 4, 2) := by decide +kernel
theorem dX6_next_52 : decode cX6_next 52 = .ok (.iload 4, 2) := by decide +kernel
theorem dX6_next_54 : decode cX6_next 54 = .ok (.bipush (-6), 2) := by decide +kernel
theorem dX6_next_56 : decode cX6_next 56 = .ok (.if_icmp .eq 6, 3) := by decide +kernel
theorem dX6_next_59 : decode cX6_next 59 = .ok (.iload 4, 2) := by decide +kernel
theorem dX6_next_61 : decode cX6_next 61 = .ok (.ireturn, 1) := by decide +kernel
theorem dX6_next_62 : decode cX6_next 62 = .ok (.iinc 2 1, 3) := by decide +kernel
theorem dX6_next_65 : decode cX6_next 65 = .ok (.goto (-52), 3) := by decide +kernel
theorem dX6_next_68 : decode cX6_next 68 = .ok (.bipush (-3), 2) := by decide +kernel
theorem dX6_next_70 : decode cX6_next 70 = .ok (.ireturn, 1) := by decide +kernel
theorem dX6_raw_0 : decode cX6_raw 0 = .ok (.aload_n 0, 1) := by decide +kernel
theorem dX6_raw_1 : decode cX6_raw 1 = .ok (.invokevirtual 110, 3) := by decide +kernel
theorem dX6_raw_4 : decode cX6_raw 4 = .ok (.istore_n 1, 1) := by decide +kernel
theorem dX6_raw_5 : decode cX6_raw 5 = .ok (.iload_n 1, 1) := by decide +kernel
theorem dX6_raw_6 : decode cX6_raw 6 = .ok (.ifCond .ge 5, 3) := by decide +kernel
theorem dX6_raw_9 : decode cX6_raw 9 = .ok (.iload_n 1, 1) := by decide +kernel
theorem dX6_raw_10 : decode cX6_raw 10 = .ok (.ireturn, 1) := by decide +kernel
theorem dX6_raw_11 : decode cX6_raw 11 = .ok (.aload_n 0, 1) := by decide +kernel
theorem dX6_raw_12 : decode cX6_raw 12 = .ok (.invokevirtual 114, 3) := by decide +kernel
theorem dX6_raw_15 : decode cX6_raw 15 = .ok (.astore_n 2, 1) := by decide +kernel
theorem dX6_raw_16 : decode cX6_raw 16 = .ok (.aload_n 2, 1) := by decide +kernel
theorem dX6_raw_17 : decode cX6_raw 17 = .ok (.ifnonnull 6, 3) := by decide +kernel
theorem dX6_raw_20 : decode cX6_raw 20 = .ok (.bipush (-3), 2) := by decide +kernel
theorem dX6_raw_22 : decode cX6_raw 22 = .ok (.ireturn, 1) := by decide +kernel
theorem dX6_raw_23 : decode cX6_raw 23 = .ok (.aload_n 2, 1) := by decide +kernel
theorem dX6_raw_24 : decode cX6_raw 24 = .ok (.getfield 127, 3) := by decide +kernel
theorem dX6_raw_27 : decode cX6_raw 27 = .ok (.istore_n 3, 1) := by decide +kernel
theorem dX6_raw_28 : decode cX6_raw 28 = .ok (.aload_n 2, 1) := by decide +kernel
theorem dX6_raw_29 : decode cX6_raw 29 = .ok (.iload_n 3, 1) := by decide +kernel
theorem dX6_raw_30 : decode cX6_raw 30 = .ok (.invokevirtual 130, 3) := by decide +kernel
theorem dX6_raw_33 : decode cX6_raw 33 = .ok (.istore 4, 2) := by decide +kernel
theorem dX6_raw_35 : decode cX6_raw 35 = .ok (.iload 4, 2) := by decide +kernel
theorem dX6_raw_37 : decode cX6_raw 37 = .ok (.ifCond .ge 11, 3) := by decide +kernel
theorem dX6_raw_40 : decode cX6_raw 40 = .ok (.aload_n 2, 1) := by decide +kernel
theorem dX6_raw_41 : decode cX6_raw 41 = .ok (.iconst 0, 1) := by decide +kernel
theorem dX6_raw_42 : decode cX6_raw 42 = .ok (.putfield 133, 3) := by decide +kernel
theorem dX6_raw_45 : decode cX6_raw 45 = .ok (.bipush (-5), 2) := by decide +kernel
theorem dX6_raw_47 : decode cX6_raw 47 = .ok (.ireturn, 1) := by decide +kernel
theorem dX6_raw_48 : decode cX6_raw 48 = .ok (.aload_n 2, 1) := by decide +kernel
theorem dX6_raw_49 : decode cX6_raw 49 = .ok (.iload_n 3, 1) := by decide +kernel
theorem dX6_raw_50 : decode cX6_raw 50 = .ok (.iconst 1, 1) := by decide +kernel
theorem dX6_raw_51 : decode cX6_raw 51 = .ok (.iadd, 1) := by decide +kernel
theorem dX6_raw_52 : decode cX6_raw 52 = .ok (.putfield 127, 3) := by decide +kernel
theorem dX6_raw_55 : decode cX6_raw 55 = .ok (.aload_n 0, 1) := by decide +kernel
theorem dX6_raw_56 : decode cX6_raw 56 = .ok (.getfield 44, 3) := by decide +kernel
theorem dX6_raw_59 : decode cX6_raw 59 = .ok (.iconst 0, 1) := by decide +kernel
theorem dX6_raw_60 : decode cX6_raw 60 = .ok (.iload 4, 2) := by decide +kernel
theorem dX6_raw_62 : decode cX6_raw 62 = .ok (.bipush 12, 2) := by decide +kernel
theorem dX6_raw_64 : decode cX6_raw 64 = .ok (.aload_n 2, 1) := by decide +kernel
theorem dX6_raw_65 : decode cX6_raw 65 = .ok (.iload_n 3, 1) := by decide +kernel
theorem dX6_raw_66 : decode cX6_raw 66 = .ok (.invokevirtual 136, 3) := by decide +kernel
theorem dX6_raw_69 : decode cX6_raw 69 = .ok (.ireturn, 1) := by decide +kernel
theorem dX6_token_0 : decode cX6_token 0 = .ok (.aload_n 0, 1) := by decide +kernel
theorem dX6_token_1 : decode cX6_token 1 = .ok (.getfield 44, 3) := by decide +kernel
theorem dX6_token_4 : decode cX6_token 4 = .ok (.iload_n 1, 1) := by decide +kernel
theorem dX6_token_5 : decode cX6_token 5 = .ok (.invokevirtual 140, 3) := by decide +kernel
theorem dX6_token_8 : decode cX6_token 8 = .ok (.ifCond .eq 13, 3) := by decide +kernel
theorem dX6_token_11 : decode cX6_token 11 = .ok (.iload_n 2, 1) := by decide +kernel
theorem dX6_token_12 : decode cX6_token 12 = .ok (.ifCond .lt 9, 3) := by decide +kernel
theorem dX6_token_15 : decode cX6_token 15 = .ok (.iload_n 2, 1) := by decide +kernel
theorem dX6_token_16 : decode cX6_token 16 = .ok (.bipush 6, 2) := by decide +kernel
theorem dX6_token_18 : decode cX6_token 18 = .ok (.if_icmp .lt 13, 3) := by decide +kernel
theorem dX6_token_21 : decode cX6_token 21 = .ok (.new 143, 3) := by decide +kernel
theorem dX6_token_24 : decode cX6_token 24 = .ok (.dup, 1) := by decide +kernel
theorem dX6_token_25 : decode cX6_token 25 = .ok (.ldc 145, 2) := by decide +kernel
theorem dX6_token_27 : decode cX6_token 27 = .ok (.invokespecial 147, 3) := by decide +kernel
theorem dX6_token_30 : decode cX6_token 30 = .ok (.athrow, 1) := by decide +kernel
theorem dX6_token_31 : decode cX6_token 31 = .ok (.aload_n 0, 1) := by decide +kernel
theorem dX6_token_32 : decode cX6_token 32 = .ok (.getfield 44, 3) := by decide +kernel
theorem dX6_token_35 : decode cX6_token 35 = .ok (.iload_n 1, 1) := by decide +kernel
theorem dX6_token_36 : decode cX6_token 36 = .ok (.iload_n 2, 1) := by decide +kernel
theorem dX6_token_37 : decode cX6_token 37 = .ok (.invokevirtual 150, 3) := by decide +kernel
theorem dX6_token_40 : decode cX6_token 40 = .ok (.ireturn, 1) := by decide +kernel
theorem dX6_name_0 : decode cX6_name 0 = .ok (.aload_n 0, 1) := by decide +kernel
theorem dX6_name_1 : decode cX6_name 1 = .ok (.getfield 37, 3) := by decide +kernel
theorem dX6_name_4 : decode cX6_name 4 = .ok (.iload_n 1, 1) := by decide +kernel
theorem dX6_name_5 : decode cX6_name 5 = .ok (.iload_n 2, 1) := by decide +kernel
theorem dX6_name_6 : decode cX6_name 6 = .ok (.invokevirtual 154, 3) := by decide +kernel
theorem dX6_name_9 : decode cX6_name 9 = .ok (.ireturn, 1) := by decide +kernel
theorem dX6_told_0 : decode cX6_told 0 = .ok (.aload_n 0, 1) := by decide +kernel
theorem dX6_told_1 : decode cX6_told 1 = .ok (.getfield 51, 3) := by decide +kernel
theorem dX6_told_4 : decode cX6_told 4 = .ok (.iload_n 1, 1) := by decide +kernel
theorem dX6_told_5 : decode cX6_told 5 = .ok (.iload_n 2, 1) := by decide +kernel
theorem dX6_told_6 : decode cX6_told 6 = .ok (.invokevirtual 157, 3) := by decide +kernel
theorem dX6_told_9 : decode cX6_told 9 = .ok (.ireturn, 1) := by decide +kernel
theorem dX6_categoryOf_0 : decode cX6_categoryOf 0 = .ok (.iload_n 1, 1) := by decide +kernel
theorem dX6_categoryOf_1 : decode cX6_categoryOf 1 = .ok (.invokestatic 59, 3) := by decide +kernel
theorem dX6_categoryOf_4 : decode cX6_categoryOf 4 = .ok (.ifCond .eq 14, 3) := by decide +kernel
theorem dX6_categoryOf_7 : decode cX6_categoryOf 7 = .ok (.aload_n 0, 1) := by decide +kernel
theorem dX6_categoryOf_8 : decode cX6_categoryOf 8 = .ok (.getfield 10, 3) := by decide +kernel
theorem dX6_categoryOf_11 : decode cX6_categoryOf 11 = .ok (.iload_n 1, 1) := by decide +kernel
theorem dX6_categoryOf_12 : decode cX6_categoryOf 12 = .ok (.invokevirtual 158, 3) := by decide +kernel
theorem dX6_categoryOf_15 : decode cX6_categoryOf 15 = .ok (.goto 5, 3) := by decide +kernel
theorem dX6_categoryOf_18 : decode cX6_categoryOf 18 = .ok (.bipush (-2), 2) := by decide +kernel
theorem dX6_categoryOf_20 : decode cX6_categoryOf 20 = .ok (.ireturn, 1) := by decide +kernel
theorem dX6_state_0 : decode cX6_state 0 = .ok (.aload_n 0, 1) := by decide +kernel
theorem dX6_state_1 : decode cX6_state 1 = .ok (.invokevirtual 102, 3) := by decide +kernel
theorem dX6_state_4 : decode cX6_state 4 = .ok (.astore_n 1, 1) := by decide +kernel
theorem dX6_state_5 : decode cX6_state 5 = .ok (.aload_n 1, 1) := by decide +kernel
theorem dX6_state_6 : decode cX6_state 6 = .ok (.ifnull 17, 3) := by decide +kernel
theorem dX6_state_9 : decode cX6_state 9 = .ok (.aload_n 1, 1) := by decide +kernel
theorem dX6_state_10 : decode cX6_state 10 = .ok (.getfield 133, 3) := by decide +kernel
theorem dX6_state_13 : decode cX6_state 13 = .ok (.ifCond .eq 10, 3) := by decide +kernel
theorem dX6_state_16 : decode cX6_state 16 = .ok (.aload_n 1, 1) := by decide +kernel
theorem dX6_state_17 : decode cX6_state 17 = .ok (.getfield 161, 3) := by decide +kernel
theorem dX6_state_20 : decode cX6_state 20 = .ok (.goto 4, 3) := by decide +kernel
theorem dX6_state_23 : decode cX6_state 23 = .ok (.iconst (-1), 1) := by decide +kernel
theorem dX6_state_24 : decode cX6_state 24 = .ok (.ireturn, 1) := by decide +kernel
theorem dX6_count_0 : decode cX6_count 0 = .ok (.iload_n 1, 1) := by decide +kernel
theorem dX6_count_1 : decode cX6_count 1 = .ok (.tableswitch 102 0 7 #[47, 55, 63, 71, 76, 84, 92, 97], 47) := by decide +kernel
theorem dX6_count_48 : decode cX6_count 48 = .ok (.aload_n 0, 1) := by decide +kernel
theorem dX6_count_49 : decode cX6_count 49 = .ok (.getfield 44, 3) := by decide +kernel
theorem dX6_count_52 : decode cX6_count 52 = .ok (.getfield 164, 3) := by decide +kernel
theorem dX6_count_55 : decode cX6_count 55 = .ok (.ireturn, 1) := by decide +kernel
theorem dX6_count_56 : decode cX6_count 56 = .ok (.aload_n 0, 1) := by decide +kernel
theorem dX6_count_57 : decode cX6_count 57 = .ok (.getfield 37, 3) := by decide +kernel
theorem dX6_count_60 : decode cX6_count 60 = .ok (.getfield 167, 3) := by decide +kernel
theorem dX6_count_63 : decode cX6_count 63 = .ok (.ireturn, 1) := by decide +kernel
theorem dX6_count_64 : decode cX6_count 64 = .ok (.aload_n 0, 1) := by decide +kernel
theorem dX6_count_65 : decode cX6_count 65 = .ok (.getfield 23, 3) := by decide +kernel
theorem dX6_count_68 : decode cX6_count 68 = .ok (.getfield 168, 3) := by decide +kernel
theorem dX6_count_71 : decode cX6_count 71 = .ok (.ireturn, 1) := by decide +kernel
theorem dX6_count_72 : decode cX6_count 72 = .ok (.aload_n 0, 1) := by decide +kernel
theorem dX6_count_73 : decode cX6_count 73 = .ok (.getfield 95, 3) := by decide +kernel
theorem dX6_count_76 : decode cX6_count 76 = .ok (.ireturn, 1) := by decide +kernel
theorem dX6_count_77 : decode cX6_count 77 = .ok (.aload_n 0, 1) := by decide +kernel
theorem dX6_count_78 : decode cX6_count 78 = .ok (.getfield 10, 3) := by decide +kernel
theorem dX6_count_81 : decode cX6_count 81 = .ok (.getfield 74, 3) := by decide +kernel
theorem dX6_count_84 : decode cX6_count 84 = .ok (.ireturn, 1) := by decide +kernel
theorem dX6_count_85 : decode cX6_count 85 = .ok (.aload_n 0, 1) := by decide +kernel
theorem dX6_count_86 : decode cX6_count 86 = .ok (.getfield 51, 3) := by decide +kernel
theorem dX6_count_89 : decode cX6_count 89 = .ok (.getfield 171, 3) := by decide +kernel
theorem dX6_count_92 : decode cX6_count 92 = .ok (.ireturn, 1) := by decide +kernel
theorem dX6_count_93 : decode cX6_count 93 = .ok (.aload_n 0, 1) := by decide +kernel
theorem dX6_count_94 : decode cX6_count 94 = .ok (.invokevirtual 172, 3) := by decide +kernel
theorem dX6_count_97 : decode cX6_count 97 = .ok (.ireturn, 1) := by decide +kernel
theorem dX6_count_98 : decode cX6_count 98 = .ok (.aload_n 0, 1) := by decide +kernel
theorem dX6_count_99 : decode cX6_count 99 = .ok (.getfield 175, 3) := by decide +kernel
theorem dX6_count_102 : decode cX6_count 102 = .ok (.ireturn, 1) := by decide +kernel
theorem dX6_count_103 : decode cX6_count 103 = .ok (.bipush (-2), 2) := by decide +kernel
theorem dX6_count_105 : decode cX6_count 105 = .ok (.ireturn, 1) := by decide +kernel
theorem dX6_check_0 : decode cX6_check 0 = .ok (.aload_n 0, 1) := by decide +kernel
theorem dX6_check_1 : decode cX6_check 1 = .ok (.getfield 37, 3) := by decide +kernel
theorem dX6_check_4 : decode cX6_check 4 = .ok (.invokevirtual 178, 3) := by decide +kernel
theorem dX6_check_7 : decode cX6_check 7 = .ok (.ifCond .eq 14, 3) := by decide +kernel
theorem dX6_check_10 : decode cX6_check 10 = .ok (.aload_n 0, 1) := by decide +kernel
theorem dX6_check_11 : decode cX6_check 11 = .ok (.invokevirtual 181, 3) := by decide +kernel
theorem dX6_check_14 : decode cX6_check 14 = .ok (.ifCond .eq 7, 3) := by decide +kernel
theorem dX6_check_17 : decode cX6_check 17 = .ok (.iconst 1, 1) := by decide +kernel
theorem dX6_check_18 : decode cX6_check 18 = .ok (.goto 4, 3) := by decide +kernel
theorem dX6_check_21 : decode cX6_check 21 = .ok (.iconst 0, 1) := by decide +kernel
theorem dX6_check_22 : decode cX6_check 22 = .ok (.ireturn, 1) := by decide +kernel
theorem dX6_isSign_0 : decode cX6_isSign 0 = .ok (.iload_n 0, 1) := by decide +kernel
theorem dX6_isSign_1 : decode cX6_isSign 1 = .ok (.ifCond .lt 14, 3) := by decide +kernel
theorem dX6_isSign_4 : decode cX6_isSign 4 = .ok (.iload_n 0, 1) := by decide +kernel
theorem dX6_isSign_5 : decode cX6_isSign 5 = .ok (.sipush 256, 3) := by decide +kernel
theorem dX6_isSign_8 : decode cX6_isSign 8 = .ok (.if_icmp .ge 7, 3) := by decide +kernel
theorem dX6_isSign_11 : decode cX6_isSign 11 = .ok (.iconst 1, 1) := by decide +kernel
theorem dX6_isSign_12 : decode cX6_isSign 12 = .ok (.goto 4, 3) := by decide +kernel
theorem dX6_isSign_15 : decode cX6_isSign 15 = .ok (.iconst 0, 1) := by decide +kernel
theorem dX6_isSign_16 : decode cX6_isSign 16 = .ok (.ireturn, 1) := by decide +kernel
theorem dX6_topLevel_0 : decode cX6_topLevel 0 = .ok (.aload_n 0, 1) := by decide +kernel
theorem dX6_topLevel_1 : decode cX6_topLevel 1 = .ok (.getfield 95, 3) := by decide +kernel
theorem dX6_topLevel_4 : decode cX6_topLevel 4 = .ok (.ifCond .le 29, 3) := by decide +kernel
theorem dX6_topLevel_7 : decode cX6_topLevel 7 = .ok (.aload_n 0, 1) := by decide +kernel
theorem dX6_topLevel_8 : decode cX6_topLevel 8 = .ok (.getfield 95, 3) := by decide +kernel
theorem dX6_topLevel_11 : decode cX6_topLevel 11 = .ok (.aload_n 0, 1) := by decide +kernel
theorem dX6_topLevel_12 : decode cX6_topLevel 12 = .ok (.getfield 29, 3) := by decide +kernel
theorem dX6_topLevel_15 : decode cX6_topLevel 15 = .ok (.arraylength, 1) := by decide +kernel
theorem dX6_topLevel_16 : decode cX6_topLevel 16 = .ok (.if_icmp .gt 17, 3) := by decide +kernel
theorem dX6_topLevel_19 : decode cX6_topLevel 19 = .ok (.aload_n 0, 1) := by decide +kernel
theorem dX6_topLevel_20 : decode cX6_topLevel 20 = .ok (.getfield 29, 3) := by decide +kernel
theorem dX6_topLevel_23 : decode cX6_topLevel 23 = .ok (.aload_n 0, 1) := by decide +kernel
theorem dX6_topLevel_24 : decode cX6_topLevel 24 = .ok (.getfield 95, 3) := by decide +kernel
theorem dX6_topLevel_27 : decode cX6_topLevel 27 = .ok (.iconst 1, 1) := by decide +kernel
theorem dX6_topLevel_28 : decode cX6_topLevel 28 = .ok (.isub, 1) := by decide +kernel
theorem dX6_topLevel_29 : decode cX6_topLevel 29 = .ok (.aaload, 1) := by decide +kernel
theorem dX6_topLevel_30 : decode cX6_topLevel 30 = .ok (.goto 4, 3) := by decide +kernel
theorem dX6_topLevel_33 : decode cX6_topLevel 33 = .ok (.aconst_null, 1) := by decide +kernel
theorem dX6_topLevel_34 : decode cX6_topLevel 34 = .ok (.areturn, 1) := by decide +kernel
theorem dX6_signsLeft_0 : decode cX6_signsLeft 0 = .ok (.aload_n 0, 1) := by decide +kernel
theorem dX6_signsLeft_1 : decode cX6_signsLeft 1 = .ok (.invokevirtual 102, 3) := by decide +kernel
theorem dX6_signsLeft_4 : decode cX6_signsLeft 4 = .ok (.astore_n 1, 1) := by decide +kernel
theorem dX6_signsLeft_5 : decode cX6_signsLeft 5 = .ok (.aload_n 1, 1) := by decide +kernel
theorem dX6_signsLeft_6 : decode cX6_signsLeft 6 = .ok (.ifnull 17, 3) := by decide +kernel
theorem dX6_signsLeft_9 : decode cX6_signsLeft 9 = .ok (.aload_n 1, 1) := by decide +kernel
theorem dX6_signsLeft_10 : decode cX6_signsLeft 10 = .ok (.getfield 133, 3) := by decide +kernel
theorem dX6_signsLeft_13 : decode cX6_signsLeft 13 = .ok (.ifCond .eq 10, 3) := by decide +kernel
theorem dX6_signsLeft_16 : decode cX6_signsLeft 16 = .ok (.aload_n 1, 1) := by decide +kernel
theorem dX6_signsLeft_17 : decode cX6_signsLeft 17 = .ok (.invokevirtual 117, 3) := by decide +kernel
theorem dX6_signsLeft_20 : decode cX6_signsLeft 20 = .ok (.goto 4, 3) := by decide +kernel
theorem dX6_signsLeft_23 : decode cX6_signsLeft 23 = .ok (.iconst 0, 1) := by decide +kernel
theorem dX6_signsLeft_24 : decode cX6_signsLeft 24 = .ok (.ireturn, 1) := by decide +kernel
theorem dX6_tokensHaveNames_0 : decode cX6_tokensHaveNames 0 = .ok (.iconst 0, 1) := by decide +kernel
theorem dX6_tokensHaveNames_1 : decode cX6_tokensHaveNames 1 = .ok (.istore_n 1, 1) := by decide +kernel
theorem dX6_tokensHaveNames_2 : decode cX6_tokensHaveNames 2 = .ok (.iload_n 1, 1) := by decide +kernel
theorem dX6_tokensHaveNames_3 : decode cX6_tokensHaveNames 3 = .ok (.aload_n 0, 1) := by decide +kernel
theorem dX6_tokensHaveNames_4 : decode cX6_tokensHaveNames 4 = .ok (.getfield 44, 3) := by decide +kernel
theorem dX6_tokensHaveNames_7 : decode cX6_tokensHaveNames 7 = .ok (.getfield 164, 3) := by decide +kernel
theorem dX6_tokensHaveNames_10 : decode cX6_tokensHaveNames 10 = .ok (.if_icmp .ge 43, 3) := by decide +kernel
theorem dX6_tokensHaveNames_13 : decode cX6_tokensHaveNames 13 = .ok (.aload_n 0, 1) := by decide +kernel
theorem dX6_tokensHaveNames_14 : decode cX6_tokensHaveNames 14 = .ok (.getfield 44, 3) := by decide +kernel
theorem dX6_tokensHaveNames_17 : decode cX6_tokensHaveNames 17 = .ok (.iload_n 1, 1) := by decide +kernel
theorem dX6_tokensHaveNames_18 : decode cX6_tokensHaveNames 18 = .ok (.iconst 0, 1) := by decide +kernel
theorem dX6_tokensHaveNames_19 : decode cX6_tokensHaveNames 19 = .ok (.invokevirtual 150, 3) := by decide +kernel
theorem dX6_tokensHaveNames_22 : decode cX6_tokensHaveNames 22 = .ok (.iconst 1, 1) := by decide +kernel
theorem dX6_tokensHaveNames_23 : decode cX6_tokensHaveNames 23 = .ok (.if_icmp .ne 24, 3) := by decide +kernel
theorem dX6_tokensHaveNames_26 : decode cX6_tokensHaveNames 26 = .ok (.aload_n 0, 1) := by decide +kernel
theorem dX6_tokensHaveNames_27 : decode cX6_tokensHaveNames 27 = .ok (.getfield 37, 3) := by decide +kernel
theorem dX6_tokensHaveNames_30 : decode cX6_tokensHaveNames 30 = .ok (.aload_n 0, 1) := by decide +kernel
theorem dX6_tokensHaveNames_31 : decode cX6_tokensHaveNames 31 = .ok (.getfield 44, 3) := by decide +kernel
theorem dX6_tokensHaveNames_34 : decode cX6_tokensHaveNames 34 = .ok (.iload_n 1, 1) := by decide +kernel
theorem dX6_tokensHaveNames_35 : decode cX6_tokensHaveNames 35 = .ok (.iconst 1, 1) := by decide +kernel
theorem dX6_tokensHaveNames_36 : decode cX6_tokensHaveNames 36 = .ok (.invokevirtual 150, 3) := by decide +kernel
theorem dX6_tokensHaveNames_39 : decode cX6_tokensHaveNames 39 = .ok (.invokevirtual 184, 3) := by decide +kernel
theorem dX6_tokensHaveNames_42 : decode cX6_tokensHaveNames 42 = .ok (.ifCond .ne 5, 3) := by decide +kernel
theorem dX6_tokensHaveNames_45 : decode cX6_tokensHaveNames 45 = .ok (.iconst 0, 1) := by decide +kernel
theorem dX6_tokensHaveNames_46 : decode cX6_tokensHaveNames 46 = .ok (.ireturn, 1) := by decide +kernel
theorem dX6_tokensHaveNames_47 : decode cX6_tokensHaveNames 47 = .ok (.iinc 1 1, 3) := by decide +kernel
theorem dX6_tokensHaveNames_50 : decode cX6_tokensHaveNames 50 = .ok (.goto (-48), 3) := by decide +kernel
theorem dX6_tokensHaveNames_53 : decode cX6_tokensHaveNames 53 = .ok (.iconst 1, 1) := by decide +kernel
theorem dX6_tokensHaveNames_54 : decode cX6_tokensHaveNames 54 = .ok (.ireturn, 1) := by decide +kernel
theorem dX6_refusalAtOnce_0 : decode cX6_refusalAtOnce 0 = .ok (.aload_n 0, 1) := by decide +kernel
theorem dX6_refusalAtOnce_1 : decode cX6_refusalAtOnce 1 = .ok (.getfield 95, 3) := by decide +kernel
theorem dX6_refusalAtOnce_4 : decode cX6_refusalAtOnce 4 = .ok (.ifCond .gt 6, 3) := by decide +kernel
theorem dX6_refusalAtOnce_7 : decode cX6_refusalAtOnce 7 = .ok (.bipush (-3), 2) := by decide +kernel
theorem dX6_refusalAtOnce_9 : decode cX6_refusalAtOnce 9 = .ok (.ireturn, 1) := by decide +kernel
theorem dX6_refusalAtOnce_10 : decode cX6_refusalAtOnce 10 = .ok (.aload_n 0, 1) := by decide +kernel
theorem dX6_refusalAtOnce_11 : decode cX6_refusalAtOnce 11 = .ok (.getfield 44, 3) := by decide +kernel
theorem dX6_refusalAtOnce_14 : decode cX6_refusalAtOnce 14 = .ok (.invokevirtual 185, 3) := by decide +kernel
theorem dX6_refusalAtOnce_17 : decode cX6_refusalAtOnce 17 = .ok (.ifCond .eq 8, 3) := by decide +kernel
theorem dX6_refusalAtOnce_20 : decode cX6_refusalAtOnce 20 = .ok (.bipush (-4), 2) := by decide +kernel
theorem dX6_refusalAtOnce_22 : decode cX6_refusalAtOnce 22 = .ok (.goto 4, 3) := by decide +kernel
theorem dX6_refusalAtOnce_25 : decode cX6_refusalAtOnce 25 = .ok (.iconst 0, 1) := by decide +kernel
theorem dX6_refusalAtOnce_26 : decode cX6_refusalAtOnce 26 = .ok (.ireturn, 1) := by decide +kernel
theorem dX6_levelWithLine_0 : decode cX6_levelWithLine 0 = .ok (.aload_n 0, 1) := by decide +kernel
theorem dX6_levelWithLine_1 : decode cX6_levelWithLine 1 = .ok (.getfield 95, 3) := by decide +kernel
theorem dX6_levelWithLine_4 : decode cX6_levelWithLine 4 = .ok (.istore_n 1, 1) := by decide +kernel
theorem dX6_levelWithLine_5 : decode cX6_levelWithLine 5 = .ok (.iload_n 1, 1) := by decide +kernel
theorem dX6_levelWithLine_6 : decode cX6_levelWithLine 6 = .ok (.ifCond .le 88, 3) := by decide +kernel
theorem dX6_levelWithLine_9 : decode cX6_levelWithLine 9 = .ok (.aload_n 0, 1) := by decide +kernel
theorem dX6_levelWithLine_10 : decode cX6_levelWithLine 10 = .ok (.invokevirtual 102, 3) := by decide +kernel
theorem dX6_levelWithLine_13 : decode cX6_levelWithLine 13 = .ok (.astore_n 2, 1) := by decide +kernel
theorem dX6_levelWithLine_14 : decode cX6_levelWithLine 14 = .ok (.aload_n 2, 1) := by decide +kernel
theorem dX6_levelWithLine_15 : decode cX6_levelWithLine 15 = .ok (.ifnonnull 5, 3) := by decide +kernel
theorem dX6_levelWithLine_18 : decode cX6_levelWithLine 18 = .ok (.aconst_null, 1) := by decide +kernel
theorem dX6_levelWithLine_19 : decode cX6_levelWithLine 19 = .ok (.areturn, 1) := by decide +kernel
theorem dX6_levelWithLine_20 : decode cX6_levelWithLine 20 = .ok (.aload_n 2, 1) := by decide +kernel
theorem dX6_levelWithLine_21 : decode cX6_levelWithLine 21 = .ok (.getfield 133, 3) := by decide +kernel
theorem dX6_levelWithLine_24 : decode cX6_levelWithLine 24 = .ok (.ifCond .eq 5, 3) := by decide +kernel
theorem dX6_levelWithLine_27 : decode cX6_levelWithLine 27 = .ok (.aload_n 2, 1) := by decide +kernel
theorem dX6_levelWithLine_28 : decode cX6_levelWithLine 28 = .ok (.areturn, 1) := by decide +kernel
theorem dX6_levelWithLine_29 : decode cX6_levelWithLine 29 = .ok (.aload_n 2, 1) := by decide +kernel
theorem dX6_levelWithLine_30 : decode cX6_levelWithLine 30 = .ok (.getfield 106, 3) := by decide +kernel
theorem dX6_levelWithLine_33 : decode cX6_levelWithLine 33 = .ok (.ifCond .ne 45, 3) := by decide +kernel
theorem dX6_levelWithLine_36 : decode cX6_levelWithLine 36 = .ok (.aload_n 2, 1) := by decide +kernel
theorem dX6_levelWithLine_37 : decode cX6_levelWithLine 37 = .ok (.getfield 188, 3) := by decide +kernel
theorem dX6_levelWithLine_40 : decode cX6_levelWithLine 40 = .ok (.aload_n 0, 1) := by decide +kernel
theorem dX6_levelWithLine_41 : decode cX6_levelWithLine 41 = .ok (.getfield 23, 3) := by decide +kernel
theorem dX6_levelWithLine_44 : decode cX6_levelWithLine 44 = .ok (.aload_n 2, 1) := by decide +kernel
theorem dX6_levelWithLine_45 : decode cX6_levelWithLine 45 = .ok (.getfield 191, 3) := by decide +kernel
theorem dX6_levelWithLine_48 : decode cX6_levelWithLine 48 = .ok (.invokevirtual 194, 3) := by decide +kernel
theorem dX6_levelWithLine_51 : decode cX6_levelWithLine 51 = .ok (.if_icmp .ge 27, 3) := by decide +kernel
theorem dX6_levelWithLine_54 : decode cX6_levelWithLine 54 = .ok (.aload_n 2, 1) := by decide +kernel
theorem dX6_levelWithLine_55 : decode cX6_levelWithLine 55 = .ok (.aload_n 0, 1) := by decide +kernel
theorem dX6_levelWithLine_56 : decode cX6_levelWithLine 56 = .ok (.getfield 23, 3) := by decide +kernel
theorem dX6_levelWithLine_59 : decode cX6_levelWithLine 59 = .ok (.aload_n 0, 1) := by decide +kernel
theorem dX6_levelWithLine_60 : decode cX6_levelWithLine 60 = .ok (.getfield 55, 3) := by decide +kernel
theorem dX6_levelWithLine_63 : decode cX6_levelWithLine 63 = .ok (.invokevirtual 197, 3) := by decide +kernel
theorem dX6_levelWithLine_66 : decode cX6_levelWithLine 66 = .ok (.aload_n 0, 1) := by decide +kernel
theorem dX6_levelWithLine_67 : decode cX6_levelWithLine 67 = .ok (.dup, 1) := by decide +kernel
theorem dX6_levelWithLine_68 : decode cX6_levelWithLine 68 = .ok (.getfield 175, 3) := by decide +kernel
theorem dX6_levelWithLine_71 : decode cX6_levelWithLine 71 = .ok (.iconst 1, 1) := by decide +kernel
theorem dX6_levelWithLine_72 : decode cX6_levelWithLine 72 = .ok (.iadd, 1) := by decide +kernel
theorem dX6_levelWithLine_73 : decode cX6_levelWithLine 73 = .ok (.putfield 175, 3) := by decide +kernel
theorem dX6_levelWithLine_76 : decode cX6_levelWithLine 76 = .ok (.aload_n 2, 1) := by decide +kernel
theorem dX6_levelWithLine_77 : decode cX6_levelWithLine 77 = .ok (.areturn, 1) := by decide +kernel
theorem dX6_levelWithLine_78 : decode cX6_levelWithLine 78 = .ok (.aload_n 0, 1) := by decide +kernel
theorem dX6_levelWithLine_79 : decode cX6_levelWithLine 79 = .ok (.dup, 1) := by decide +kernel
theorem dX6_levelWithLine_80 : decode cX6_levelWithLine 80 = .ok (.getfield 95, 3) := by decide +kernel
theorem dX6_levelWithLine_83 : decode cX6_levelWithLine 83 = .ok (.iconst 1, 1) := by decide +kernel
theorem dX6_levelWithLine_84 : decode cX6_levelWithLine 84 = .ok (.isub, 1) := by decide +kernel
theorem dX6_levelWithLine_85 : decode cX6_levelWithLine 85 = .ok (.putfield 95, 3) := by decide +kernel
theorem dX6_levelWithLine_88 : decode cX6_levelWithLine 88 = .ok (.iinc 1 (-1), 3) := by decide +kernel
theorem dX6_levelWithLine_91 : decode cX6_levelWithLine 91 = .ok (.goto (-86), 3) := by decide +kernel
theorem dX6_levelWithLine_94 : decode cX6_levelWithLine 94 = .ok (.aconst_null, 1) := by decide +kernel
theorem dX6_levelWithLine_95 : decode cX6_levelWithLine 95 = .ok (.areturn, 1) := by decide +kernel
theorem dX6_dropUsedLine_0 : decode cX6_dropUsedLine 0 = .ok (.aload_n 0, 1) := by decide +kernel
theorem dX6_dropUsedLine_1 : decode cX6_dropUsedLine 1 = .ok (.iconst 0, 1) := by decide +kernel
theorem dX6_dropUsedLine_2 : decode cX6_dropUsedLine 2 = .ok (.putfield 133, 3) := by decide +kernel
theorem dX6_dropUsedLine_5 : decode cX6_dropUsedLine 5 = .ok (.bipush (-6), 2) := by decide +kernel
theorem dX6_dropUsedLine_7 : decode cX6_dropUsedLine 7 = .ok (.ireturn, 1) := by decide +kernel
theorem dX6_readToken_0 : decode cX6_readToken 0 = .ok (.aload_n 1, 1) := by decide +kernel
theorem dX6_readToken_1 : decode cX6_readToken 1 = .ok (.getfield 127, 3) := by decide +kernel
theorem dX6_readToken_4 : decode cX6_readToken 4 = .ok (.istore_n 2, 1) := by decide +kernel
theorem dX6_readToken_5 : decode cX6_readToken 5 = .ok (.aload_n 1, 1) := by decide +kernel
theorem dX6_readToken_6 : decode cX6_readToken 6 = .ok (.iload_n 2, 1) := by decide +kernel
theorem dX6_readToken_7 : decode cX6_readToken 7 = .ok (.aload_n 0, 1) := by decide +kernel
theorem dX6_readToken_8 : decode cX6_readToken 8 = .ok (.getfield 10, 3) := by decide +kernel
theorem dX6_readToken_11 : decode cX6_readToken 11 = .ok (.invokevirtual 201, 3) := by decide +kernel
theorem dX6_readToken_14 : decode cX6_readToken 14 = .ok (.aload_n 1, 1) := by decide +kernel
theorem dX6_readToken_15 : decode cX6_readToken 15 = .ok (.getfield 205, 3) := by decide +kernel
theorem dX6_readToken_18 : decode cX6_readToken 18 = .ok (.istore_n 3, 1) := by decide +kernel
theorem dX6_readToken_19 : decode cX6_readToken 19 = .ok (.aload_n 0, 1) := by decide +kernel
theorem dX6_readToken_20 : decode cX6_readToken 20 = .ok (.getfield 10, 3) := by decide +kernel
theorem dX6_readToken_23 : decode cX6_readToken 23 = .ok (.iload_n 3, 1) := by decide +kernel
theorem dX6_readToken_24 : decode cX6_readToken 24 = .ok (.invokevirtual 158, 3) := by decide +kernel
theorem dX6_readToken_27 : decode cX6_readToken 27 = .ok (.istore 4, 2) := by decide +kernel
theorem dX6_readToken_29 : decode cX6_readToken 29 = .ok (.aload_n 1, 1) := by decide +kernel
theorem dX6_readToken_30 : decode cX6_readToken 30 = .ok (.aload_n 1, 1) := by decide +kernel
theorem dX6_readToken_31 : decode cX6_readToken 31 = .ok (.getfield 207, 3) := by decide +kernel
theorem dX6_readToken_34 : decode cX6_readToken 34 = .ok (.putfield 127, 3) := by decide +kernel
theorem dX6_readToken_37 : decode cX6_readToken 37 = .ok (.iload 4, 2) := by decide +kernel
theorem dX6_readToken_39 : decode cX6_readToken 39 = .ok (.tableswitch 136 0 15 #[77, 136, 136, 136, 136, 84, 136, 136, 136, 91, 94, 136, 136, 101, 109, 117], 77) := by decide +kernel
theorem dX6_readToken_116 : decode cX6_readToken 116 = .ok (.aload_n 0, 1) := by decide +kernel
theorem dX6_readToken_117 : decode cX6_readToken 117 = .ok (.aload_n 1, 1) := by decide +kernel
theorem dX6_readToken_118 : decode cX6_readToken 118 = .ok (.iload_n 2, 1) := by decide +kernel
theorem dX6_readToken_119 : decode cX6_readToken 119 = .ok (.invokevirtual 210, 3) := by decide +kernel
theorem dX6_readToken_122 : decode cX6_readToken 122 = .ok (.ireturn, 1) := by decide +kernel
theorem dX6_readToken_123 : decode cX6_readToken 123 = .ok (.aload_n 0, 1) := by decide +kernel
theorem dX6_readToken_124 : decode cX6_readToken 124 = .ok (.aload_n 1, 1) := by decide +kernel
theorem dX6_readToken_125 : decode cX6_readToken 125 = .ok (.iload_n 2, 1) := by decide +kernel
theorem dX6_readToken_126 : decode cX6_readToken 126 = .ok (.invokevirtual 214, 3) := by decide +kernel
theorem dX6_readToken_129 : decode cX6_readToken 129 = .ok (.ireturn, 1) := by decide +kernel
theorem dX6_readToken_130 : decode cX6_readToken 130 = .ok (.bipush (-6), 2) := by decide +kernel
theorem dX6_readToken_132 : decode cX6_readToken 132 = .ok (.ireturn, 1) := by decide +kernel
theorem dX6_readToken_133 : decode cX6_readToken 133 = .ok (.aload_n 0, 1) := by decide +kernel
theorem dX6_readToken_134 : decode cX6_readToken 134 = .ok (.aload_n 1, 1) := by decide +kernel
theorem dX6_readToken_135 : decode cX6_readToken 135 = .ok (.iload_n 2, 1) := by decide +kernel
theorem dX6_readToken_136 : decode cX6_readToken 136 = .ok (.invokevirtual 217, 3) := by decide +kernel
theorem dX6_readToken_139 : decode cX6_readToken 139 = .ok (.ireturn, 1) := by decide +kernel
theorem dX6_readToken_140 : decode cX6_readToken 140 = .ok (.aload_n 0, 1) := by decide +kernel
theorem dX6_readToken_141 : decode cX6_readToken 141 = .ok (.aload_n 1, 1) := by decide +kernel
theorem dX6_readToken_142 : decode cX6_readToken 142 = .ok (.iload_n 3, 1) := by decide +kernel
theorem dX6_readToken_143 : decode cX6_readToken 143 = .ok (.iload_n 2, 1) := by decide +kernel
theorem dX6_readToken_144 : decode cX6_readToken 144 = .ok (.invokevirtual 220, 3) := by decide +kernel
theorem dX6_readToken_147 : decode cX6_readToken 147 = .ok (.ireturn, 1) := by decide +kernel
theorem dX6_readToken_148 : decode cX6_readToken 148 = .ok (.aload_n 1, 1) := by decide +kernel
theorem dX6_readToken_149 : decode cX6_readToken 149 = .ok (.iconst 0, 1) := by decide +kernel
theorem dX6_readToken_150 : decode cX6_readToken 150 = .ok (.putfield 133, 3) := by decide +kernel
theorem dX6_readToken_153 : decode cX6_readToken 153 = .ok (.bipush (-6), 2) := by decide +kernel
theorem dX6_readToken_155 : decode cX6_readToken 155 = .ok (.ireturn, 1) := by decide +kernel
theorem dX6_readToken_156 : decode cX6_readToken 156 = .ok (.aload_n 0, 1) := by decide +kernel
theorem dX6_readToken_157 : decode cX6_readToken 157 = .ok (.getfield 51, 3) := by decide +kernel
theorem dX6_readToken_160 : decode cX6_readToken 160 = .ok (.iconst 1, 1) := by decide +kernel
theorem dX6_readToken_161 : decode cX6_readToken 161 = .ok (.aload_n 0, 1) := by decide +kernel
theorem dX6_readToken_162 : decode cX6_readToken 162 = .ok (.getfield 44, 3) := by decide +kernel
theorem dX6_readToken_165 : decode cX6_readToken 165 = .ok (.getfield 164, 3) := by decide +kernel
theorem dX6_readToken_168 : decode cX6_readToken 168 = .ok (.iload_n 3, 1) := by decide +kernel
theorem dX6_readToken_169 : decode cX6_readToken 169 = .ok (.invokevirtual 224, 3) := by decide +kernel
theorem dX6_readToken_172 : decode cX6_readToken 172 = .ok (.bipush (-6), 2) := by decide +kernel
theorem dX6_readToken_174 : decode cX6_readToken 174 = .ok (.ireturn, 1) := by decide +kernel
theorem dX6_readToken_175 : decode cX6_readToken 175 = .ok (.aload_n 1, 1) := by decide +kernel
theorem dX6_readToken_176 : decode cX6_readToken 176 = .ok (.iconst 1, 1) := by decide +kernel
theorem dX6_readToken_177 : decode cX6_readToken 177 = .ok (.putfield 161, 3) := by decide +kernel
theorem dX6_readToken_180 : decode cX6_readToken 180 = .ok (.aload_n 0, 1) := by decide +kernel
theorem dX6_readToken_181 : decode cX6_readToken 181 = .ok (.getfield 44, 3) := by decide +kernel
theorem dX6_readToken_184 : decode cX6_readToken 184 = .ok (.iconst 0, 1) := by decide +kernel
theorem dX6_readToken_185 : decode cX6_readToken 185 = .ok (.iload_n 3, 1) := by decide +kernel
theorem dX6_readToken_186 : decode cX6_readToken 186 = .ok (.iload 4, 2) := by decide +kernel
theorem dX6_readToken_188 : decode cX6_readToken 188 = .ok (.aload_n 1, 1) := by decide +kernel
theorem dX6_readToken_189 : decode cX6_readToken 189 = .ok (.iload_n 2, 1) := by decide +kernel
theorem dX6_readToken_190 : decode cX6_readToken 190 = .ok (.invokevirtual 136, 3) := by decide +kernel
theorem dX6_readToken_193 : decode cX6_readToken 193 = .ok (.ireturn, 1) := by decide +kernel
theorem dX6_readLineEnd_0 : decode cX6_readLineEnd 0 = .ok (.aload_n 1, 1) := by decide +kernel
theorem dX6_readLineEnd_1 : decode cX6_readLineEnd 1 = .ok (.iconst 0, 1) := by decide +kernel
theorem dX6_readLineEnd_2 : decode cX6_readLineEnd 2 = .ok (.putfield 133, 3) := by decide +kernel
theorem dX6_readLineEnd_5 : decode cX6_readLineEnd 5 = .ok (.aload_n 1, 1) := by decide +kernel
theorem dX6_readLineEnd_6 : decode cX6_readLineEnd 6 = .ok (.getfield 161, 3) := by decide +kernel
theorem dX6_readLineEnd_9 : decode cX6_readLineEnd 9 = .ok (.ifCond .ne 16, 3) := by decide +kernel
theorem dX6_readLineEnd_12 : decode cX6_readLineEnd 12 = .ok (.aload_n 0, 1) := by decide +kernel
theorem dX6_readLineEnd_13 : decode cX6_readLineEnd 13 = .ok (.getfield 44, 3) := by decide +kernel
theorem dX6_readLineEnd_16 : decode cX6_readLineEnd 16 = .ok (.iconst 1, 1) := by decide +kernel
theorem dX6_readLineEnd_17 : decode cX6_readLineEnd 17 = .ok (.iconst 0, 1) := by decide +kernel
theorem dX6_readLineEnd_18 : decode cX6_readLineEnd 18 = .ok (.iconst 0, 1) := by decide +kernel
theorem dX6_readLineEnd_19 : decode cX6_readLineEnd 19 = .ok (.aload_n 1, 1) := by decide +kernel
theorem dX6_readLineEnd_20 : decode cX6_readLineEnd 20 = .ok (.iload_n 2, 1) := by decide +kernel
theorem dX6_readLineEnd_21 : decode cX6_readLineEnd 21 = .ok (.invokevirtual 136, 3) := by decide +kernel
theorem dX6_readLineEnd_24 : decode cX6_readLineEnd 24 = .ok (.ireturn, 1) := by decide +kernel
theorem dX6_readLineEnd_25 : decode cX6_readLineEnd 25 = .ok (.aload_n 1, 1) := by decide +kernel
theorem dX6_readLineEnd_26 : decode cX6_readLineEnd 26 = .ok (.getfield 161, 3) := by decide +kernel
theorem dX6_readLineEnd_29 : decode cX6_readLineEnd 29 = .ok (.iconst 1, 1) := by decide +kernel
theorem dX6_readLineEnd_30 : decode cX6_readLineEnd 30 = .ok (.if_icmp .ne 18, 3) := by decide +kernel
theorem dX6_readLineEnd_33 : decode cX6_readLineEnd 33 = .ok (.aload_n 0, 1) := by decide +kernel
theorem dX6_readLineEnd_34 : decode cX6_readLineEnd 34 = .ok (.getfield 44, 3) := by decide +kernel
theorem dX6_readLineEnd_37 : decode cX6_readLineEnd 37 = .ok (.iconst 0, 1) := by decide +kernel
theorem dX6_readLineEnd_38 : decode cX6_readLineEnd 38 = .ok (.bipush 32, 2) := by decide +kernel
theorem dX6_readLineEnd_40 : decode cX6_readLineEnd 40 = .ok (.bipush 10, 2) := by decide +kernel
theorem dX6_readLineEnd_42 : decode cX6_readLineEnd 42 = .ok (.aload_n 1, 1) := by decide +kernel
theorem dX6_readLineEnd_43 : decode cX6_readLineEnd 43 = .ok (.iload_n 2, 1) := by decide +kernel
theorem dX6_readLineEnd_44 : decode cX6_readLineEnd 44 = .ok (.invokevirtual 136, 3) := by decide +kernel
theorem dX6_readLineEnd_47 : decode cX6_readLineEnd 47 = .ok (.ireturn, 1) := by decide +kernel
theorem dX6_readLineEnd_48 : decode cX6_readLineEnd 48 = .ok (.bipush (-6), 2) := by decide +kernel
theorem dX6_readLineEnd_50 : decode cX6_readLineEnd 50 = .ok (.ireturn, 1) := by decide +kernel
theorem dX6_readBlank_0 : decode cX6_readBlank 0 = .ok (.aload_n 1, 1) := by decide +kernel
theorem dX6_readBlank_1 : decode cX6_readBlank 1 = .ok (.getfield 161, 3) := by decide +kernel
theorem dX6_readBlank_4 : decode cX6_readBlank 4 = .ok (.iconst 1, 1) := by decide +kernel
theorem dX6_readBlank_5 : decode cX6_readBlank 5 = .ok (.if_icmp .eq 6, 3) := by decide +kernel
theorem dX6_readBlank_8 : decode cX6_readBlank 8 = .ok (.bipush (-6), 2) := by decide +kernel
theorem dX6_readBlank_10 : decode cX6_readBlank 10 = .ok (.ireturn, 1) := by decide +kernel
theorem dX6_readBlank_11 : decode cX6_readBlank 11 = .ok (.aload_n 1, 1) := by decide +kernel
theorem dX6_readBlank_12 : decode cX6_readBlank 12 = .ok (.iconst 2, 1) := by decide +kernel
theorem dX6_readBlank_13 : decode cX6_readBlank 13 = .ok (.putfield 161, 3) := by decide +kernel
theorem dX6_readBlank_16 : decode cX6_readBlank 16 = .ok (.aload_n 0, 1) := by decide +kernel
theorem dX6_readBlank_17 : decode cX6_readBlank 17 = .ok (.getfield 44, 3) := by decide +kernel
theorem dX6_readBlank_20 : decode cX6_readBlank 20 = .ok (.iconst 0, 1) := by decide +kernel
theorem dX6_readBlank_21 : decode cX6_readBlank 21 = .ok (.bipush 32, 2) := by decide +kernel
theorem dX6_readBlank_23 : decode cX6_readBlank 23 = .ok (.bipush 10, 2) := by decide +kernel
theorem dX6_readBlank_25 : decode cX6_readBlank 25 = .ok (.aload_n 1, 1) := by decide +kernel
theorem dX6_readBlank_26 : decode cX6_readBlank 26 = .ok (.iload_n 2, 1) := by decide +kernel
theorem dX6_readBlank_27 : decode cX6_readBlank 27 = .ok (.invokevirtual 136, 3) := by decide +kernel
theorem dX6_readBlank_30 : decode cX6_readBlank 30 = .ok (.ireturn, 1) := by decide +kernel
theorem dX6_readActive_0 : decode cX6_readActive 0 = .ok (.aload_n 1, 1) := by decide +kernel
theorem dX6_readActive_1 : decode cX6_readActive 1 = .ok (.iconst 1, 1) := by decide +kernel
theorem dX6_readActive_2 : decode cX6_readActive 2 = .ok (.putfield 161, 3) := by decide +kernel
theorem dX6_readActive_5 : decode cX6_readActive 5 = .ok (.iload_n 2, 1) := by decide +kernel
theorem dX6_readActive_6 : decode cX6_readActive 6 = .ok (.invokestatic 59, 3) := by decide +kernel
theorem dX6_readActive_9 : decode cX6_readActive 9 = .ok (.ifCond .eq 28, 3) := by decide +kernel
theorem dX6_readActive_12 : decode cX6_readActive 12 = .ok (.aload_n 0, 1) := by decide +kernel
theorem dX6_readActive_13 : decode cX6_readActive 13 = .ok (.getfield 16, 3) := by decide +kernel
theorem dX6_readActive_16 : decode cX6_readActive 16 = .ok (.iload_n 2, 1) := by decide +kernel
theorem dX6_readActive_17 : decode cX6_readActive 17 = .ok (.baload, 1) := by decide +kernel
theorem dX6_readActive_18 : decode cX6_readActive 18 = .ok (.ifCond .ne 19, 3) := by decide +kernel
theorem dX6_readActive_21 : decode cX6_readActive 21 = .ok (.aload_n 0, 1) := by decide +kernel
theorem dX6_readActive_22 : decode cX6_readActive 22 = .ok (.getfield 51, 3) := by decide +kernel
theorem dX6_readActive_25 : decode cX6_readActive 25 = .ok (.iconst 2, 1) := by decide +kernel
theorem dX6_readActive_26 : decode cX6_readActive 26 = .ok (.aload_n 0, 1) := by decide +kernel
theorem dX6_readActive_27 : decode cX6_readActive 27 = .ok (.getfield 44, 3) := by decide +kernel
theorem dX6_readActive_30 : decode cX6_readActive 30 = .ok (.getfield 164, 3) := by decide +kernel
theorem dX6_readActive_33 : decode cX6_readActive 33 = .ok (.iload_n 2, 1) := by decide +kernel
theorem dX6_readActive_34 : decode cX6_readActive 34 = .ok (.invokevirtual 224, 3) := by decide +kernel
theorem dX6_readActive_37 : decode cX6_readActive 37 = .ok (.aload_n 0, 1) := by decide +kernel
theorem dX6_readActive_38 : decode cX6_readActive 38 = .ok (.getfield 44, 3) := by decide +kernel
theorem dX6_readActive_41 : decode cX6_readActive 41 = .ok (.iconst 2, 1) := by decide +kernel
theorem dX6_readActive_42 : decode cX6_readActive 42 = .ok (.iload_n 2, 1) := by decide +kernel
theorem dX6_readActive_43 : decode cX6_readActive 43 = .ok (.bipush 13, 2) := by decide +kernel
theorem dX6_readActive_45 : decode cX6_readActive 45 = .ok (.aload_n 1, 1) := by decide +kernel
theorem dX6_readActive_46 : decode cX6_readActive 46 = .ok (.iload_n 3, 1) := by decide +kernel
theorem dX6_readActive_47 : decode cX6_readActive 47 = .ok (.invokevirtual 136, 3) := by decide +kernel
theorem dX6_readActive_50 : decode cX6_readActive 50 = .ok (.ireturn, 1) := by decide +kernel
theorem dX6_readName_0 : decode cX6_readName 0 = .ok (.aload_n 0, 1) := by decide +kernel
theorem dX6_readName_1 : decode cX6_readName 1 = .ok (.getfield 37, 3) := by decide +kernel
theorem dX6_readName_4 : decode cX6_readName 4 = .ok (.invokevirtual 228, 3) := by decide +kernel
theorem dX6_readName_7 : decode cX6_readName 7 = .ok (.aload_n 1, 1) := by decide +kernel
theorem dX6_readName_8 : decode cX6_readName 8 = .ok (.aload_n 1, 1) := by decide +kernel
theorem dX6_readName_9 : decode cX6_readName 9 = .ok (.getfield 127, 3) := by decide +kernel
theorem dX6_readName_12 : decode cX6_readName 12 = .ok (.aload_n 0, 1) := by decide +kernel
theorem dX6_readName_13 : decode cX6_readName 13 = .ok (.getfield 10, 3) := by decide +kernel
theorem dX6_readName_16 : decode cX6_readName 16 = .ok (.invokevirtual 201, 3) := by decide +kernel
theorem dX6_readName_19 : decode cX6_readName 19 = .ok (.aload_n 0, 1) := by decide +kernel
theorem dX6_readName_20 : decode cX6_readName 20 = .ok (.getfield 10, 3) := by decide +kernel
theorem dX6_readName_23 : decode cX6_readName 23 = .ok (.aload_n 1, 1) := by decide +kernel
theorem dX6_readName_24 : decode cX6_readName 24 = .ok (.getfield 205, 3) := by decide +kernel
theorem dX6_readName_27 : decode cX6_readName 27 = .ok (.invokevirtual 158, 3) := by decide +kernel
theorem dX6_readName_30 : decode cX6_readName 30 = .ok (.istore_n 3, 1) := by decide +kernel
theorem dX6_readName_31 : decode cX6_readName 31 = .ok (.iload_n 3, 1) := by decide +kernel
theorem dX6_readName_32 : decode cX6_readName 32 = .ok (.bipush 11, 2) := by decide +kernel
theorem dX6_readName_34 : decode cX6_readName 34 = .ok (.if_icmp .ne 16, 3) := by decide +kernel
theorem dX6_readName_37 : decode cX6_readName 37 = .ok (.aload_n 0, 1) := by decide +kernel
theorem dX6_readName_38 : decode cX6_readName 38 = .ok (.aload_n 1, 1) := by decide +kernel
theorem dX6_readName_39 : decode cX6_readName 39 = .ok (.invokevirtual 231, 3) := by decide +kernel
theorem dX6_readName_42 : decode cX6_readName 42 = .ok (.aload_n 1, 1) := by decide +kernel
theorem dX6_readName_43 : decode cX6_readName 43 = .ok (.iconst 2, 1) := by decide +kernel
theorem dX6_readName_44 : decode cX6_readName 44 = .ok (.putfield 161, 3) := by decide +kernel
theorem dX6_readName_47 : decode cX6_readName 47 = .ok (.goto 52, 3) := by decide +kernel
theorem dX6_readName_50 : decode cX6_readName 50 = .ok (.aload_n 1, 1) := by decide +kernel
theorem dX6_readName_51 : decode cX6_readName 51 = .ok (.getfield 205, 3) := by decide +kernel
theorem dX6_readName_54 : decode cX6_readName 54 = .ok (.ifCond .lt 40, 3) := by decide +kernel
theorem dX6_readName_57 : decode cX6_readName 57 = .ok (.aload_n 0, 1) := by decide +kernel
theorem dX6_readName_58 : decode cX6_readName 58 = .ok (.getfield 37, 3) := by decide +kernel
theorem dX6_readName_61 : decode cX6_readName 61 = .ok (.aload_n 1, 1) := by decide +kernel
theorem dX6_readName_62 : decode cX6_readName 62 = .ok (.getfield 205, 3) := by decide +kernel
theorem dX6_readName_65 : decode cX6_readName 65 = .ok (.invokevirtual 235, 3) := by decide +kernel
theorem dX6_readName_68 : decode cX6_readName 68 = .ok (.aload_n 1, 1) := by decide +kernel
theorem dX6_readName_69 : decode cX6_readName 69 = .ok (.aload_n 1, 1) := by decide +kernel
theorem dX6_readName_70 : decode cX6_readName 70 = .ok (.getfield 207, 3) := by decide +kernel
theorem dX6_readName_73 : decode cX6_readName 73 = .ok (.putfield 127, 3) := by decide +kernel
theorem dX6_readName_76 : decode cX6_readName 76 = .ok (.aload_n 1, 1) := by decide +kernel
theorem dX6_readName_77 : decode cX6_readName 77 = .ok (.iload_n 3, 1) := by decide +kernel
theorem dX6_readName_78 : decode cX6_readName 78 = .ok (.bipush 10, 2) := by decide +kernel
theorem dX6_readName_80 : decode cX6_readName 80 = .ok (.if_icmp .ne 7, 3) := by decide +kernel
theorem dX6_readName_83 : decode cX6_readName 83 = .ok (.iconst 2, 1) := by decide +kernel
theorem dX6_readName_84 : decode cX6_readName 84 = .ok (.goto 4, 3) := by decide +kernel
theorem dX6_readName_87 : decode cX6_readName 87 = .ok (.iconst 1, 1) := by decide +kernel
theorem dX6_readName_88 : decode cX6_readName 88 = .ok (.putfield 161, 3) := by decide +kernel
theorem dX6_readName_91 : decode cX6_readName 91 = .ok (.goto 8, 3) := by decide +kernel
theorem dX6_readName_94 : decode cX6_readName 94 = .ok (.aload_n 1, 1) := by decide +kernel
theorem dX6_readName_95 : decode cX6_readName 95 = .ok (.iconst 1, 1) := by decide +kernel
theorem dX6_readName_96 : decode cX6_readName 96 = .ok (.putfield 161, 3) := by decide +kernel
theorem dX6_readName_99 : decode cX6_readName 99 = .ok (.aload_n 0, 1) := by decide +kernel
theorem dX6_readName_100 : decode cX6_readName 100 = .ok (.getfield 37, 3) := by decide +kernel
theorem dX6_readName_103 : decode cX6_readName 103 = .ok (.invokevirtual 238, 3) := by decide +kernel
theorem dX6_readName_106 : decode cX6_readName 106 = .ok (.ifCond .eq 19, 3) := by decide +kernel
theorem dX6_readName_109 : decode cX6_readName 109 = .ok (.aload_n 0, 1) := by decide +kernel
theorem dX6_readName_110 : decode cX6_readName 110 = .ok (.getfield 51, 3) := by decide +kernel
theorem dX6_readName_113 : decode cX6_readName 113 = .ok (.iconst 3, 1) := by decide +kernel
theorem dX6_readName_114 : decode cX6_readName 114 = .ok (.aload_n 0, 1) := by decide +kernel
theorem dX6_readName_115 : decode cX6_readName 115 = .ok (.getfield 44, 3) := by decide +kernel
theorem dX6_readName_118 : decode cX6_readName 118 = .ok (.getfield 164, 3) := by decide +kernel
theorem dX6_readName_121 : decode cX6_readName 121 = .ok (.iconst 0, 1) := by decide +kernel
theorem dX6_readName_122 : decode cX6_readName 122 = .ok (.invokevirtual 224, 3) := by decide +kernel
theorem dX6_readName_125 : decode cX6_readName 125 = .ok (.aload_n 0, 1) := by decide +kernel
theorem dX6_readName_126 : decode cX6_readName 126 = .ok (.getfield 37, 3) := by decide +kernel
theorem dX6_readName_129 : decode cX6_readName 129 = .ok (.invokevirtual 241, 3) := by decide +kernel
theorem dX6_readName_132 : decode cX6_readName 132 = .ok (.istore 4, 2) := by decide +kernel
theorem dX6_readName_134 : decode cX6_readName 134 = .ok (.iload 4, 2) := by decide +kernel
theorem dX6_readName_136 : decode cX6_readName 136 = .ok (.ifCond .ge 8, 3) := by decide +kernel
theorem dX6_readName_139 : decode cX6_readName 139 = .ok (.bipush (-4), 2) := by decide +kernel
theorem dX6_readName_141 : decode cX6_readName 141 = .ok (.goto 16, 3) := by decide +kernel
theorem dX6_readName_144 : decode cX6_readName 144 = .ok (.aload_n 0, 1) := by decide +kernel
theorem dX6_readName_145 : decode cX6_readName 145 = .ok (.getfield 44, 3) := by decide +kernel
theorem dX6_readName_148 : decode cX6_readName 148 = .ok (.iconst 1, 1) := by decide +kernel
theorem dX6_readName_149 : decode cX6_readName 149 = .ok (.iload 4, 2) := by decide +kernel
theorem dX6_readName_151 : decode cX6_readName 151 = .ok (.iconst 0, 1) := by decide +kernel
theorem dX6_readName_152 : decode cX6_readName 152 = .ok (.aload_n 1, 1) := by decide +kernel
theorem dX6_readName_153 : decode cX6_readName 153 = .ok (.iload_n 2, 1) := by decide +kernel
theorem dX6_readName_154 : decode cX6_readName 154 = .ok (.invokevirtual 136, 3) := by decide +kernel
theorem dX6_readName_157 : decode cX6_readName 157 = .ok (.ireturn, 1) := by decide +kernel
theorem dX6_draftLetters_0 : decode cX6_draftLetters 0 = .ok (.aload_n 1, 1) := by decide +kernel
theorem dX6_draftLetters_1 : decode cX6_draftLetters 1 = .ok (.invokevirtual 117, 3) := by decide +kernel
theorem dX6_draftLetters_4 : decode cX6_draftLetters 4 = .ok (.istore_n 2, 1) := by decide +kernel
theorem dX6_draftLetters_5 : decode cX6_draftLetters 5 = .ok (.iload_n 2, 1) := by decide +kernel
theorem dX6_draftLetters_6 : decode cX6_draftLetters 6 = .ok (.ifCond .le 57, 3) := by decide +kernel
theorem dX6_draftLetters_9 : decode cX6_draftLetters 9 = .ok (.aload_n 1, 1) := by decide +kernel
theorem dX6_draftLetters_10 : decode cX6_draftLetters 10 = .ok (.aload_n 1, 1) := by decide +kernel
theorem dX6_draftLetters_11 : decode cX6_draftLetters 11 = .ok (.getfield 127, 3) := by decide +kernel
theorem dX6_draftLetters_14 : decode cX6_draftLetters 14 = .ok (.aload_n 0, 1) := by decide +kernel
theorem dX6_draftLetters_15 : decode cX6_draftLetters 15 = .ok (.getfield 10, 3) := by decide +kernel
theorem dX6_draftLetters_18 : decode cX6_draftLetters 18 = .ok (.invokevirtual 201, 3) := by decide +kernel
theorem dX6_draftLetters_21 : decode cX6_draftLetters 21 = .ok (.aload_n 0, 1) := by decide +kernel
theorem dX6_draftLetters_22 : decode cX6_draftLetters 22 = .ok (.getfield 10, 3) := by decide +kernel
theorem dX6_draftLetters_25 : decode cX6_draftLetters 25 = .ok (.aload_n 1, 1) := by decide +kernel
theorem dX6_draftLetters_26 : decode cX6_draftLetters 26 = .ok (.getfield 205, 3) := by decide +kernel
theorem dX6_draftLetters_29 : decode cX6_draftLetters 29 = .ok (.invokevirtual 158, 3) := by decide +kernel
theorem dX6_draftLetters_32 : decode cX6_draftLetters 32 = .ok (.bipush 11, 2) := by decide +kernel
theorem dX6_draftLetters_34 : decode cX6_draftLetters 34 = .ok (.if_icmp .eq 4, 3) := by decide +kernel
theorem dX6_draftLetters_37 : decode cX6_draftLetters 37 = .ok (.return_, 1) := by decide +kernel
theorem dX6_draftLetters_38 : decode cX6_draftLetters 38 = .ok (.aload_n 0, 1) := by decide +kernel
theorem dX6_draftLetters_39 : decode cX6_draftLetters 39 = .ok (.getfield 37, 3) := by decide +kernel
theorem dX6_draftLetters_42 : decode cX6_draftLetters 42 = .ok (.aload_n 1, 1) := by decide +kernel
theorem dX6_draftLetters_43 : decode cX6_draftLetters 43 = .ok (.getfield 205, 3) := by decide +kernel
theorem dX6_draftLetters_46 : decode cX6_draftLetters 46 = .ok (.invokevirtual 235, 3) := by decide +kernel
theorem dX6_draftLetters_49 : decode cX6_draftLetters 49 = .ok (.aload_n 1, 1) := by decide +kernel
theorem dX6_draftLetters_50 : decode cX6_draftLetters 50 = .ok (.aload_n 1, 1) := by decide +kernel
theorem dX6_draftLetters_51 : decode cX6_draftLetters 51 = .ok (.getfield 207, 3) := by decide +kernel
theorem dX6_draftLetters_54 : decode cX6_draftLetters 54 = .ok (.putfield 127, 3) := by decide +kernel
theorem dX6_draftLetters_57 : decode cX6_draftLetters 57 = .ok (.iinc 2 (-1), 3) := by decide +kernel
theorem dX6_draftLetters_60 : decode cX6_draftLetters 60 = .ok (.goto (-55), 3) := by decide +kernel
theorem dX6_draftLetters_63 : decode cX6_draftLetters 63 = .ok (.return_, 1) := by decide +kernel
