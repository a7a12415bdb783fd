theorem dX1_init_0 : decode cX1_init 0 = .ok (.aload_n 0, 1) := by decide +kernel
theorem dX1_init_1 : decode cX1_init 1 = .ok (.invokespecial 3, 3) := by decide +kernel
theorem dX1_init_4 : decode cX1_init 4 = .ok (.aload_n 0, 1) := by decide +kernel
theorem dX1_init_5 : decode cX1_init 5 = .ok (.bipush 121, 2) := by decide +kernel
theorem dX1_init_7 : decode cX1_init 7 = .ok (.newarray .int, 2) := by decide +kernel
theorem dX1_init_9 : decode cX1_init 9 = .ok (.putfield 9, 3) := by decide +kernel
theorem dX1_init_12 : decode cX1_init 12 = .ok (.return_, 1) := by decide +kernel
theorem dX1_start_0 : decode cX1_start 0 = .ok (.aload_n 0, 1) := by decide +kernel
theorem dX1_start_1 : decode cX1_start 1 = .ok (.iload_n 1, 1) := by decide +kernel
theorem dX1_start_2 : decode cX1_start 2 = .ok (.putfield 15, 3) := by decide +kernel
theorem dX1_start_5 : decode cX1_start 5 = .ok (.aload_n 0, 1) := by decide +kernel
theorem dX1_start_6 : decode cX1_start 6 = .ok (.iconst 0, 1) := by decide +kernel
theorem dX1_start_7 : decode cX1_start 7 = .ok (.putfield 19, 3) := by decide +kernel
theorem dX1_start_10 : decode cX1_start 10 = .ok (.aload_n 0, 1) := by decide +kernel
theorem dX1_start_11 : decode cX1_start 11 = .ok (.iconst 0, 1) := by decide +kernel
theorem dX1_start_12 : decode cX1_start 12 = .ok (.putfield 22, 3) := by decide +kernel
theorem dX1_start_15 : decode cX1_start 15 = .ok (.aload_n 0, 1) := by decide +kernel
theorem dX1_start_16 : decode cX1_start 16 = .ok (.iconst 0, 1) := by decide +kernel
theorem dX1_start_17 : decode cX1_start 17 = .ok (.putfield 26, 3) := by decide +kernel
theorem dX1_start_20 : decode cX1_start 20 = .ok (.return_, 1) := by decide +kernel
theorem dX1_beginLine_0 : decode cX1_beginLine 0 = .ok (.aload_n 0, 1) := by decide +kernel
theorem dX1_beginLine_1 : decode cX1_beginLine 1 = .ok (.aload_n 1, 1) := by decide +kernel
theorem dX1_beginLine_2 : decode cX1_beginLine 2 = .ok (.aload_n 0, 1) := by decide +kernel
theorem dX1_beginLine_3 : decode cX1_beginLine 3 = .ok (.getfield 15, 3) := by decide +kernel
theorem dX1_beginLine_6 : decode cX1_beginLine 6 = .ok (.aload_n 0, 1) := by decide +kernel
theorem dX1_beginLine_7 : decode cX1_beginLine 7 = .ok (.getfield 19, 3) := by decide +kernel
theorem dX1_beginLine_10 : decode cX1_beginLine 10 = .ok (.aload_n 0, 1) := by decide +kernel
theorem dX1_beginLine_11 : decode cX1_beginLine 11 = .ok (.getfield 9, 3) := by decide +kernel
theorem dX1_beginLine_14 : decode cX1_beginLine 14 = .ok (.invokevirtual 29, 3) := by decide +kernel
theorem dX1_beginLine_17 : decode cX1_beginLine 17 = .ok (.putfield 35, 3) := by decide +kernel
theorem dX1_beginLine_20 : decode cX1_beginLine 20 = .ok (.iload_n 2, 1) := by decide +kernel
theorem dX1_beginLine_21 : decode cX1_beginLine 21 = .ok (.ifCond .lt 35, 3) := by decide +kernel
theorem dX1_beginLine_24 : decode cX1_beginLine 24 = .ok (.aload_n 0, 1) := by decide +kernel
theorem dX1_beginLine_25 : decode cX1_beginLine 25 = .ok (.getfield 35, 3) := by decide +kernel
theorem dX1_beginLine_28 : decode cX1_beginLine 28 = .ok (.aload_n 0, 1) := by decide +kernel
theorem dX1_beginLine_29 : decode cX1_beginLine 29 = .ok (.getfield 9, 3) := by decide +kernel
theorem dX1_beginLine_32 : decode cX1_beginLine 32 = .ok (.arraylength, 1) := by decide +kernel
theorem dX1_beginLine_33 : decode cX1_beginLine 33 = .ok (.if_icmp .ge 23, 3) := by decide +kernel
theorem dX1_beginLine_36 : decode cX1_beginLine 36 = .ok (.aload_n 0, 1) := by decide +kernel
theorem dX1_beginLine_37 : decode cX1_beginLine 37 = .ok (.getfield 9, 3) := by decide +kernel
theorem dX1_beginLine_40 : decode cX1_beginLine 40 = .ok (.aload_n 0, 1) := by decide +kernel
theorem dX1_beginLine_41 : decode cX1_beginLine 41 = .ok (.getfield 35, 3) := by decide +kernel
theorem dX1_beginLine_44 : decode cX1_beginLine 44 = .ok (.iload_n 2, 1) := by decide +kernel
theorem dX1_beginLine_45 : decode cX1_beginLine 45 = .ok (.iastore, 1) := by decide +kernel
theorem dX1_beginLine_46 : decode cX1_beginLine 46 = .ok (.aload_n 0, 1) := by decide +kernel
theorem dX1_beginLine_47 : decode cX1_beginLine 47 = .ok (.dup, 1) := by decide +kernel
theorem dX1_beginLine_48 : decode cX1_beginLine 48 = .ok (.getfield 35, 3) := by decide +kernel
theorem dX1_beginLine_51 : decode cX1_beginLine 51 = .ok (.iconst 1, 1) := by decide +kernel
theorem dX1_beginLine_52 : decode cX1_beginLine 52 = .ok (.iadd, 1) := by decide +kernel
theorem dX1_beginLine_53 : decode cX1_beginLine 53 = .ok (.putfield 35, 3) := by decide +kernel
theorem dX1_beginLine_56 : decode cX1_beginLine 56 = .ok (.aload_n 0, 1) := by decide +kernel
theorem dX1_beginLine_57 : decode cX1_beginLine 57 = .ok (.dup, 1) := by decide +kernel
theorem dX1_beginLine_58 : decode cX1_beginLine 58 = .ok (.getfield 19, 3) := by decide +kernel
theorem dX1_beginLine_61 : decode cX1_beginLine 61 = .ok (.iconst 1, 1) := by decide +kernel
theorem dX1_beginLine_62 : decode cX1_beginLine 62 = .ok (.iadd, 1) := by decide +kernel
theorem dX1_beginLine_63 : decode cX1_beginLine 63 = .ok (.putfield 19, 3) := by decide +kernel
theorem dX1_beginLine_66 : decode cX1_beginLine 66 = .ok (.aload_n 0, 1) := by decide +kernel
theorem dX1_beginLine_67 : decode cX1_beginLine 67 = .ok (.iconst 0, 1) := by decide +kernel
theorem dX1_beginLine_68 : decode cX1_beginLine 68 = .ok (.putfield 38, 3) := by decide +kernel
theorem dX1_beginLine_71 : decode cX1_beginLine 71 = .ok (.aload_n 0, 1) := by decide +kernel
theorem dX1_beginLine_72 : decode cX1_beginLine 72 = .ok (.iconst 0, 1) := by decide +kernel
theorem dX1_beginLine_73 : decode cX1_beginLine 73 = .ok (.putfield 41, 3) := by decide +kernel
theorem dX1_beginLine_76 : decode cX1_beginLine 76 = .ok (.aload_n 0, 1) := by decide +kernel
theorem dX1_beginLine_77 : decode cX1_beginLine 77 = .ok (.iconst 1, 1) := by decide +kernel
theorem dX1_beginLine_78 : decode cX1_beginLine 78 = .ok (.putfield 26, 3) := by decide +kernel
theorem dX1_beginLine_81 : decode cX1_beginLine 81 = .ok (.return_, 1) := by decide +kernel
theorem dX1_left_0 : decode cX1_left 0 = .ok (.aload_n 0, 1) := by decide +kernel
theorem dX1_left_1 : decode cX1_left 1 = .ok (.getfield 38, 3) := by decide +kernel
theorem dX1_left_4 : decode cX1_left 4 = .ok (.aload_n 0, 1) := by decide +kernel
theorem dX1_left_5 : decode cX1_left 5 = .ok (.getfield 35, 3) := by decide +kernel
theorem dX1_left_8 : decode cX1_left 8 = .ok (.if_icmp .ge 15, 3) := by decide +kernel
theorem dX1_left_11 : decode cX1_left 11 = .ok (.aload_n 0, 1) := by decide +kernel
theorem dX1_left_12 : decode cX1_left 12 = .ok (.getfield 35, 3) := by decide +kernel
theorem dX1_left_15 : decode cX1_left 15 = .ok (.aload_n 0, 1) := by decide +kernel
theorem dX1_left_16 : decode cX1_left 16 = .ok (.getfield 38, 3) := by decide +kernel
theorem dX1_left_19 : decode cX1_left 19 = .ok (.isub, 1) := by decide +kernel
theorem dX1_left_20 : decode cX1_left 20 = .ok (.goto 4, 3) := by decide +kernel
theorem dX1_left_23 : decode cX1_left 23 = .ok (.iconst 0, 1) := by decide +kernel
theorem dX1_left_24 : decode cX1_left 24 = .ok (.ireturn, 1) := by decide +kernel
theorem dX1_standing_0 : decode cX1_standing 0 = .ok (.iload_n 1, 1) := by decide +kernel
theorem dX1_standing_1 : decode cX1_standing 1 = .ok (.ifCond .lt 29, 3) := by decide +kernel
theorem dX1_standing_4 : decode cX1_standing 4 = .ok (.iload_n 1, 1) := by decide +kernel
theorem dX1_standing_5 : decode cX1_standing 5 = .ok (.aload_n 0, 1) := by decide +kernel
theorem dX1_standing_6 : decode cX1_standing 6 = .ok (.getfield 35, 3) := by decide +kernel
theorem dX1_standing_9 : decode cX1_standing 9 = .ok (.if_icmp .ge 21, 3) := by decide +kernel
theorem dX1_standing_12 : decode cX1_standing 12 = .ok (.iload_n 1, 1) := by decide +kernel
theorem dX1_standing_13 : decode cX1_standing 13 = .ok (.aload_n 0, 1) := by decide +kernel
theorem dX1_standing_14 : decode cX1_standing 14 = .ok (.getfield 9, 3) := by decide +kernel
theorem dX1_standing_17 : decode cX1_standing 17 = .ok (.arraylength, 1) := by decide +kernel
theorem dX1_standing_18 : decode cX1_standing 18 = .ok (.if_icmp .ge 12, 3) := by decide +kernel
theorem dX1_standing_21 : decode cX1_standing 21 = .ok (.aload_n 0, 1) := by decide +kernel
theorem dX1_standing_22 : decode cX1_standing 22 = .ok (.getfield 9, 3) := by decide +kernel
theorem dX1_standing_25 : decode cX1_standing 25 = .ok (.iload_n 1, 1) := by decide +kernel
theorem dX1_standing_26 : decode cX1_standing 26 = .ok (.iaload, 1) := by decide +kernel
theorem dX1_standing_27 : decode cX1_standing 27 = .ok (.goto 4, 3) := by decide +kernel
theorem dX1_standing_30 : decode cX1_standing 30 = .ok (.iconst (-1), 1) := by decide +kernel
theorem dX1_standing_31 : decode cX1_standing 31 = .ok (.ireturn, 1) := by decide +kernel
theorem dX1_look_0 : decode cX1_look 0 = .ok (.aload_n 0, 1) := by decide +kernel
theorem dX1_look_1 : decode cX1_look 1 = .ok (.aload_n 0, 1) := by decide +kernel
theorem dX1_look_2 : decode cX1_look 2 = .ok (.iload_n 1, 1) := by decide +kernel
theorem dX1_look_3 : decode cX1_look 3 = .ok (.invokevirtual 44, 3) := by decide +kernel
theorem dX1_look_6 : decode cX1_look 6 = .ok (.putfield 48, 3) := by decide +kernel
theorem dX1_look_9 : decode cX1_look 9 = .ok (.aload_n 0, 1) := by decide +kernel
theorem dX1_look_10 : decode cX1_look 10 = .ok (.iload_n 1, 1) := by decide +kernel
theorem dX1_look_11 : decode cX1_look 11 = .ok (.iconst 1, 1) := by decide +kernel
theorem dX1_look_12 : decode cX1_look 12 = .ok (.iadd, 1) := by decide +kernel
theorem dX1_look_13 : decode cX1_look 13 = .ok (.putfield 51, 3) := by decide +kernel
theorem dX1_look_16 : decode cX1_look 16 = .ok (.aload_n 0, 1) := by decide +kernel
theorem dX1_look_17 : decode cX1_look 17 = .ok (.getfield 35, 3) := by decide +kernel
theorem dX1_look_20 : decode cX1_look 20 = .ok (.istore_n 3, 1) := by decide +kernel
theorem dX1_look_21 : decode cX1_look 21 = .ok (.iload_n 3, 1) := by decide +kernel
theorem dX1_look_22 : decode cX1_look 22 = .ok (.ifCond .le 21, 3) := by decide +kernel
theorem dX1_look_25 : decode cX1_look 25 = .ok (.aload_n 0, 1) := by decide +kernel
theorem dX1_look_26 : decode cX1_look 26 = .ok (.aload_n 2, 1) := by decide +kernel
theorem dX1_look_27 : decode cX1_look 27 = .ok (.invokevirtual 54, 3) := by decide +kernel
theorem dX1_look_30 : decode cX1_look 30 = .ok (.ifCond .eq 13, 3) := by decide +kernel
theorem dX1_look_33 : decode cX1_look 33 = .ok (.aload_n 0, 1) := by decide +kernel
theorem dX1_look_34 : decode cX1_look 34 = .ok (.invokevirtual 58, 3) := by decide +kernel
theorem dX1_look_37 : decode cX1_look 37 = .ok (.iinc 3 (-1), 3) := by decide +kernel
theorem dX1_look_40 : decode cX1_look 40 = .ok (.goto (-19), 3) := by decide +kernel
theorem dX1_look_43 : decode cX1_look 43 = .ok (.return_, 1) := by decide +kernel
theorem dX1_tellsAnother_0 : decode cX1_tellsAnother 0 = .ok (.aload_n 1, 1) := by decide +kernel
theorem dX1_tellsAnother_1 : decode cX1_tellsAnother 1 = .ok (.aload_n 0, 1) := by decide +kernel
theorem dX1_tellsAnother_2 : decode cX1_tellsAnother 2 = .ok (.getfield 48, 3) := by decide +kernel
theorem dX1_tellsAnother_5 : decode cX1_tellsAnother 5 = .ok (.invokevirtual 61, 3) := by decide +kernel
theorem dX1_tellsAnother_8 : decode cX1_tellsAnother 8 = .ok (.bipush 7, 2) := by decide +kernel
theorem dX1_tellsAnother_10 : decode cX1_tellsAnother 10 = .ok (.if_icmp .ne 18, 3) := by decide +kernel
theorem dX1_tellsAnother_13 : decode cX1_tellsAnother 13 = .ok (.aload_n 0, 1) := by decide +kernel
theorem dX1_tellsAnother_14 : decode cX1_tellsAnother 14 = .ok (.aload_n 0, 1) := by decide +kernel
theorem dX1_tellsAnother_15 : decode cX1_tellsAnother 15 = .ok (.getfield 51, 3) := by decide +kernel
theorem dX1_tellsAnother_18 : decode cX1_tellsAnother 18 = .ok (.invokevirtual 44, 3) := by decide +kernel
theorem dX1_tellsAnother_21 : decode cX1_tellsAnother 21 = .ok (.aload_n 0, 1) := by decide +kernel
theorem dX1_tellsAnother_22 : decode cX1_tellsAnother 22 = .ok (.getfield 48, 3) := by decide +kernel
theorem dX1_tellsAnother_25 : decode cX1_tellsAnother 25 = .ok (.if_icmp .eq 5, 3) := by decide +kernel
theorem dX1_tellsAnother_28 : decode cX1_tellsAnother 28 = .ok (.iconst 0, 1) := by decide +kernel
theorem dX1_tellsAnother_29 : decode cX1_tellsAnother 29 = .ok (.ireturn, 1) := by decide +kernel
theorem dX1_tellsAnother_30 : decode cX1_tellsAnother 30 = .ok (.aload_n 0, 1) := by decide +kernel
theorem dX1_tellsAnother_31 : decode cX1_tellsAnother 31 = .ok (.aload_n 0, 1) := by decide +kernel
theorem dX1_tellsAnother_32 : decode cX1_tellsAnother 32 = .ok (.getfield 51, 3) := by decide +kernel
theorem dX1_tellsAnother_35 : decode cX1_tellsAnother 35 = .ok (.iconst 1, 1) := by decide +kernel
theorem dX1_tellsAnother_36 : decode cX1_tellsAnother 36 = .ok (.iadd, 1) := by decide +kernel
theorem dX1_tellsAnother_37 : decode cX1_tellsAnother 37 = .ok (.invokevirtual 44, 3) := by decide +kernel
theorem dX1_tellsAnother_40 : decode cX1_tellsAnother 40 = .ok (.istore_n 2, 1) := by decide +kernel
theorem dX1_tellsAnother_41 : decode cX1_tellsAnother 41 = .ok (.iload_n 2, 1) := by decide +kernel
theorem dX1_tellsAnother_42 : decode cX1_tellsAnother 42 = .ok (.ifCond .lt 14, 3) := by decide +kernel
theorem dX1_tellsAnother_45 : decode cX1_tellsAnother 45 = .ok (.iload_n 2, 1) := by decide +kernel
theorem dX1_tellsAnother_46 : decode cX1_tellsAnother 46 = .ok (.sipush 128, 3) := by decide +kernel
theorem dX1_tellsAnother_49 : decode cX1_tellsAnother 49 = .ok (.if_icmp .ge 7, 3) := by decide +kernel
theorem dX1_tellsAnother_52 : decode cX1_tellsAnother 52 = .ok (.iconst 1, 1) := by decide +kernel
theorem dX1_tellsAnother_53 : decode cX1_tellsAnother 53 = .ok (.goto 4, 3) := by decide +kernel
theorem dX1_tellsAnother_56 : decode cX1_tellsAnother 56 = .ok (.iconst 0, 1) := by decide +kernel
theorem dX1_tellsAnother_57 : decode cX1_tellsAnother 57 = .ok (.ireturn, 1) := by decide +kernel
theorem dX1_tellAnother_0 : decode cX1_tellAnother 0 = .ok (.aload_n 0, 1) := by decide +kernel
theorem dX1_tellAnother_1 : decode cX1_tellAnother 1 = .ok (.aload_n 0, 1) := by decide +kernel
theorem dX1_tellAnother_2 : decode cX1_tellAnother 2 = .ok (.getfield 51, 3) := by decide +kernel
theorem dX1_tellAnother_5 : decode cX1_tellAnother 5 = .ok (.iconst 1, 1) := by decide +kernel
theorem dX1_tellAnother_6 : decode cX1_tellAnother 6 = .ok (.iadd, 1) := by decide +kernel
theorem dX1_tellAnother_7 : decode cX1_tellAnother 7 = .ok (.invokevirtual 44, 3) := by decide +kernel
theorem dX1_tellAnother_10 : decode cX1_tellAnother 10 = .ok (.istore_n 1, 1) := by decide +kernel
theorem dX1_tellAnother_11 : decode cX1_tellAnother 11 = .ok (.iload_n 1, 1) := by decide +kernel
theorem dX1_tellAnother_12 : decode cX1_tellAnother 12 = .ok (.invokestatic 66, 3) := by decide +kernel
theorem dX1_tellAnother_15 : decode cX1_tellAnother 15 = .ok (.istore_n 2, 1) := by decide +kernel
theorem dX1_tellAnother_16 : decode cX1_tellAnother 16 = .ok (.aload_n 0, 1) := by decide +kernel
theorem dX1_tellAnother_17 : decode cX1_tellAnother 17 = .ok (.aload_n 0, 1) := by decide +kernel
theorem dX1_tellAnother_18 : decode cX1_tellAnother 18 = .ok (.getfield 51, 3) := by decide +kernel
theorem dX1_tellAnother_21 : decode cX1_tellAnother 21 = .ok (.iconst 2, 1) := by decide +kernel
theorem dX1_tellAnother_22 : decode cX1_tellAnother 22 = .ok (.iadd, 1) := by decide +kernel
theorem dX1_tellAnother_23 : decode cX1_tellAnother 23 = .ok (.invokevirtual 44, 3) := by decide +kernel
theorem dX1_tellAnother_26 : decode cX1_tellAnother 26 = .ok (.invokestatic 66, 3) := by decide +kernel
theorem dX1_tellAnother_29 : decode cX1_tellAnother 29 = .ok (.istore_n 3, 1) := by decide +kernel
theorem dX1_tellAnother_30 : decode cX1_tellAnother 30 = .ok (.iload_n 2, 1) := by decide +kernel
theorem dX1_tellAnother_31 : decode cX1_tellAnother 31 = .ok (.ifCond .lt 30, 3) := by decide +kernel
theorem dX1_tellAnother_34 : decode cX1_tellAnother 34 = .ok (.iload_n 3, 1) := by decide +kernel
theorem dX1_tellAnother_35 : decode cX1_tellAnother 35 = .ok (.ifCond .lt 26, 3) := by decide +kernel
theorem dX1_tellAnother_38 : decode cX1_tellAnother 38 = .ok (.aload_n 0, 1) := by decide +kernel
theorem dX1_tellAnother_39 : decode cX1_tellAnother 39 = .ok (.bipush 16, 2) := by decide +kernel
theorem dX1_tellAnother_41 : decode cX1_tellAnother 41 = .ok (.iload_n 2, 1) := by decide +kernel
theorem dX1_tellAnother_42 : decode cX1_tellAnother 42 = .ok (.imul, 1) := by decide +kernel
theorem dX1_tellAnother_43 : decode cX1_tellAnother 43 = .ok (.iload_n 3, 1) := by decide +kernel
theorem dX1_tellAnother_44 : decode cX1_tellAnother 44 = .ok (.iadd, 1) := by decide +kernel
theorem dX1_tellAnother_45 : decode cX1_tellAnother 45 = .ok (.putfield 48, 3) := by decide +kernel
theorem dX1_tellAnother_48 : decode cX1_tellAnother 48 = .ok (.aload_n 0, 1) := by decide +kernel
theorem dX1_tellAnother_49 : decode cX1_tellAnother 49 = .ok (.dup, 1) := by decide +kernel
theorem dX1_tellAnother_50 : decode cX1_tellAnother 50 = .ok (.getfield 51, 3) := by decide +kernel
theorem dX1_tellAnother_53 : decode cX1_tellAnother 53 = .ok (.iconst 3, 1) := by decide +kernel
theorem dX1_tellAnother_54 : decode cX1_tellAnother 54 = .ok (.iadd, 1) := by decide +kernel
theorem dX1_tellAnother_55 : decode cX1_tellAnother 55 = .ok (.putfield 51, 3) := by decide +kernel
theorem dX1_tellAnother_58 : decode cX1_tellAnother 58 = .ok (.goto 34, 3) := by decide +kernel
theorem dX1_tellAnother_61 : decode cX1_tellAnother 61 = .ok (.aload_n 0, 1) := by decide +kernel
theorem dX1_tellAnother_62 : decode cX1_tellAnother 62 = .ok (.iload_n 1, 1) := by decide +kernel
theorem dX1_tellAnother_63 : decode cX1_tellAnother 63 = .ok (.bipush 64, 2) := by decide +kernel
theorem dX1_tellAnother_65 : decode cX1_tellAnother 65 = .ok (.if_icmp .ge 10, 3) := by decide +kernel
theorem dX1_tellAnother_68 : decode cX1_tellAnother 68 = .ok (.iload_n 1, 1) := by decide +kernel
theorem dX1_tellAnother_69 : decode cX1_tellAnother 69 = .ok (.bipush 64, 2) := by decide +kernel
theorem dX1_tellAnother_71 : decode cX1_tellAnother 71 = .ok (.iadd, 1) := by decide +kernel
theorem dX1_tellAnother_72 : decode cX1_tellAnother 72 = .ok (.goto 7, 3) := by decide +kernel
theorem dX1_tellAnother_75 : decode cX1_tellAnother 75 = .ok (.iload_n 1, 1) := by decide +kernel
theorem dX1_tellAnother_76 : decode cX1_tellAnother 76 = .ok (.bipush 64, 2) := by decide +kernel
theorem dX1_tellAnother_78 : decode cX1_tellAnother 78 = .ok (.isub, 1) := by decide +kernel
theorem dX1_tellAnother_79 : decode cX1_tellAnother 79 = .ok (.putfield 48, 3) := by decide +kernel
theorem dX1_tellAnother_82 : decode cX1_tellAnother 82 = .ok (.aload_n 0, 1) := by decide +kernel
theorem dX1_tellAnother_83 : decode cX1_tellAnother 83 = .ok (.dup, 1) := by decide +kernel
theorem dX1_tellAnother_84 : decode cX1_tellAnother 84 = .ok (.getfield 51, 3) := by decide +kernel
theorem dX1_tellAnother_87 : decode cX1_tellAnother 87 = .ok (.iconst 2, 1) := by decide +kernel
theorem dX1_tellAnother_88 : decode cX1_tellAnother 88 = .ok (.iadd, 1) := by decide +kernel
theorem dX1_tellAnother_89 : decode cX1_tellAnother 89 = .ok (.putfield 51, 3) := by decide +kernel
theorem dX1_tellAnother_92 : decode cX1_tellAnother 92 = .ok (.return_, 1) := by decide +kernel
theorem dX1_digit_0 : decode cX1_digit 0 = .ok (.iload_n 0, 1) := by decide +kernel
theorem dX1_digit_1 : decode cX1_digit 1 = .ok (.bipush 48, 2) := by decide +kernel
theorem dX1_digit_3 : decode cX1_digit 3 = .ok (.if_icmp .lt 14, 3) := by decide +kernel
theorem dX1_digit_6 : decode cX1_digit 6 = .ok (.iload_n 0, 1) := by decide +kernel
theorem dX1_digit_7 : decode cX1_digit 7 = .ok (.bipush 57, 2) := by decide +kernel
theorem dX1_digit_9 : decode cX1_digit 9 = .ok (.if_icmp .gt 8, 3) := by decide +kernel
theorem dX1_digit_12 : decode cX1_digit 12 = .ok (.iload_n 0, 1) := by decide +kernel
theorem dX1_digit_13 : decode cX1_digit 13 = .ok (.bipush 48, 2) := by decide +kernel
theorem dX1_digit_15 : decode cX1_digit 15 = .ok (.isub, 1) := by decide +kernel
theorem dX1_digit_16 : decode cX1_digit 16 = .ok (.ireturn, 1) := by decide +kernel
theorem dX1_digit_17 : decode cX1_digit 17 = .ok (.iload_n 0, 1) := by decide +kernel
theorem dX1_digit_18 : decode cX1_digit 18 = .ok (.bipush 97, 2) := by decide +kernel
theorem dX1_digit_20 : decode cX1_digit 20 = .ok (.if_icmp .lt 16, 3) := by decide +kernel
theorem dX1_digit_23 : decode cX1_digit 23 = .ok (.iload_n 0, 1) := by decide +kernel
theorem dX1_digit_24 : decode cX1_digit 24 = .ok (.bipush 102, 2) := by decide +kernel
theorem dX1_digit_26 : decode cX1_digit 26 = .ok (.if_icmp .gt 10, 3) := by decide +kernel
theorem dX1_digit_29 : decode cX1_digit 29 = .ok (.iload_n 0, 1) := by decide +kernel
theorem dX1_digit_30 : decode cX1_digit 30 = .ok (.bipush 87, 2) := by decide +kernel
theorem dX1_digit_32 : decode cX1_digit 32 = .ok (.isub, 1) := by decide +kernel
theorem dX1_digit_33 : decode cX1_digit 33 = .ok (.goto 4, 3) := by decide +kernel
theorem dX1_digit_36 : decode cX1_digit 36 = .ok (.iconst (-1), 1) := by decide +kernel
theorem dX1_digit_37 : decode cX1_digit 37 = .ok (.ireturn, 1) := by decide +kernel
