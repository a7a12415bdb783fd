theorem dX4_init_0 : decode cX4_init 0 = .ok (.aload_n 0, 1) := by decide +kernel
theorem dX4_init_1 : decode cX4_init 1 = .ok (.invokespecial 3, 3) := by decide +kernel
theorem dX4_init_4 : decode cX4_init 4 = .ok (.aload_n 0, 1) := by decide +kernel
theorem dX4_init_5 : decode cX4_init 5 = .ok (.sipush 300, 3) := by decide +kernel
theorem dX4_init_8 : decode cX4_init 8 = .ok (.newarray .int, 2) := by decide +kernel
theorem dX4_init_10 : decode cX4_init 10 = .ok (.putfield 9, 3) := by decide +kernel
theorem dX4_init_13 : decode cX4_init 13 = .ok (.return_, 1) := by decide +kernel
theorem dX4_report_0 : decode cX4_report 0 = .ok (.aload_n 0, 1) := by decide +kernel
theorem dX4_report_1 : decode cX4_report 1 = .ok (.getfield 15, 3) := by decide +kernel
theorem dX4_report_4 : decode cX4_report 4 = .ok (.iconst 3, 1) := by decide +kernel
theorem dX4_report_5 : decode cX4_report 5 = .ok (.imul, 1) := by decide +kernel
theorem dX4_report_6 : decode cX4_report 6 = .ok (.istore 4, 2) := by decide +kernel
theorem dX4_report_8 : decode cX4_report 8 = .ok (.aload_n 0, 1) := by decide +kernel
theorem dX4_report_9 : decode cX4_report 9 = .ok (.getfield 15, 3) := by decide +kernel
theorem dX4_report_12 : decode cX4_report 12 = .ok (.ifCond .lt 52, 3) := by decide +kernel
theorem dX4_report_15 : decode cX4_report 15 = .ok (.aload_n 0, 1) := by decide +kernel
theorem dX4_report_16 : decode cX4_report 16 = .ok (.getfield 15, 3) := by decide +kernel
theorem dX4_report_19 : decode cX4_report 19 = .ok (.bipush 100, 2) := by decide +kernel
theorem dX4_report_21 : decode cX4_report 21 = .ok (.if_icmp .ge 43, 3) := by decide +kernel
theorem dX4_report_24 : decode cX4_report 24 = .ok (.iload 4, 2) := by decide +kernel
theorem dX4_report_26 : decode cX4_report 26 = .ok (.iconst 3, 1) := by decide +kernel
theorem dX4_report_27 : decode cX4_report 27 = .ok (.iadd, 1) := by decide +kernel
theorem dX4_report_28 : decode cX4_report 28 = .ok (.aload_n 0, 1) := by decide +kernel
theorem dX4_report_29 : decode cX4_report 29 = .ok (.getfield 9, 3) := by decide +kernel
theorem dX4_report_32 : decode cX4_report 32 = .ok (.arraylength, 1) := by decide +kernel
theorem dX4_report_33 : decode cX4_report 33 = .ok (.if_icmp .gt 31, 3) := by decide +kernel
theorem dX4_report_36 : decode cX4_report 36 = .ok (.aload_n 0, 1) := by decide +kernel
theorem dX4_report_37 : decode cX4_report 37 = .ok (.getfield 9, 3) := by decide +kernel
theorem dX4_report_40 : decode cX4_report 40 = .ok (.iload 4, 2) := by decide +kernel
theorem dX4_report_42 : decode cX4_report 42 = .ok (.iload_n 1, 1) := by decide +kernel
theorem dX4_report_43 : decode cX4_report 43 = .ok (.iastore, 1) := by decide +kernel
theorem dX4_report_44 : decode cX4_report 44 = .ok (.aload_n 0, 1) := by decide +kernel
theorem dX4_report_45 : decode cX4_report 45 = .ok (.getfield 9, 3) := by decide +kernel
theorem dX4_report_48 : decode cX4_report 48 = .ok (.iload 4, 2) := by decide +kernel
theorem dX4_report_50 : decode cX4_report 50 = .ok (.iconst 1, 1) := by decide +kernel
theorem dX4_report_51 : decode cX4_report 51 = .ok (.iadd, 1) := by decide +kernel
theorem dX4_report_52 : decode cX4_report 52 = .ok (.iload_n 2, 1) := by decide +kernel
theorem dX4_report_53 : decode cX4_report 53 = .ok (.iastore, 1) := by decide +kernel
theorem dX4_report_54 : decode cX4_report 54 = .ok (.aload_n 0, 1) := by decide +kernel
theorem dX4_report_55 : decode cX4_report 55 = .ok (.getfield 9, 3) := by decide +kernel
theorem dX4_report_58 : decode cX4_report 58 = .ok (.iload 4, 2) := by decide +kernel
theorem dX4_report_60 : decode cX4_report 60 = .ok (.iconst 2, 1) := by decide +kernel
theorem dX4_report_61 : decode cX4_report 61 = .ok (.iadd, 1) := by decide +kernel
theorem dX4_report_62 : decode cX4_report 62 = .ok (.iload_n 3, 1) := by decide +kernel
theorem dX4_report_63 : decode cX4_report 63 = .ok (.iastore, 1) := by decide +kernel
theorem dX4_report_64 : decode cX4_report 64 = .ok (.aload_n 0, 1) := by decide +kernel
theorem dX4_report_65 : decode cX4_report 65 = .ok (.dup, 1) := by decide +kernel
theorem dX4_report_66 : decode cX4_report 66 = .ok (.getfield 15, 3) := by decide +kernel
theorem dX4_report_69 : decode cX4_report 69 = .ok (.iconst 1, 1) := by decide +kernel
theorem dX4_report_70 : decode cX4_report 70 = .ok (.iadd, 1) := by decide +kernel
theorem dX4_report_71 : decode cX4_report 71 = .ok (.putfield 15, 3) := by decide +kernel
theorem dX4_report_74 : decode cX4_report 74 = .ok (.return_, 1) := by decide +kernel
theorem dX4_part_0 : decode cX4_part 0 = .ok (.iload_n 1, 1) := by decide +kernel
theorem dX4_part_1 : decode cX4_part 1 = .ok (.ifCond .lt 26, 3) := by decide +kernel
theorem dX4_part_4 : decode cX4_part 4 = .ok (.iload_n 1, 1) := by decide +kernel
theorem dX4_part_5 : decode cX4_part 5 = .ok (.aload_n 0, 1) := by decide +kernel
theorem dX4_part_6 : decode cX4_part 6 = .ok (.getfield 15, 3) := by decide +kernel
theorem dX4_part_9 : decode cX4_part 9 = .ok (.if_icmp .ge 18, 3) := by decide +kernel
theorem dX4_part_12 : decode cX4_part 12 = .ok (.iload_n 1, 1) := by decide +kernel
theorem dX4_part_13 : decode cX4_part 13 = .ok (.bipush 100, 2) := by decide +kernel
theorem dX4_part_15 : decode cX4_part 15 = .ok (.if_icmp .ge 12, 3) := by decide +kernel
theorem dX4_part_18 : decode cX4_part 18 = .ok (.iload_n 2, 1) := by decide +kernel
theorem dX4_part_19 : decode cX4_part 19 = .ok (.ifCond .lt 8, 3) := by decide +kernel
theorem dX4_part_22 : decode cX4_part 22 = .ok (.iload_n 2, 1) := by decide +kernel
theorem dX4_part_23 : decode cX4_part 23 = .ok (.iconst 3, 1) := by decide +kernel
theorem dX4_part_24 : decode cX4_part 24 = .ok (.if_icmp .lt 5, 3) := by decide +kernel
theorem dX4_part_27 : decode cX4_part 27 = .ok (.iconst (-1), 1) := by decide +kernel
theorem dX4_part_28 : decode cX4_part 28 = .ok (.ireturn, 1) := by decide +kernel
theorem dX4_part_29 : decode cX4_part 29 = .ok (.iload_n 1, 1) := by decide +kernel
theorem dX4_part_30 : decode cX4_part 30 = .ok (.iconst 3, 1) := by decide +kernel
theorem dX4_part_31 : decode cX4_part 31 = .ok (.imul, 1) := by decide +kernel
theorem dX4_part_32 : decode cX4_part 32 = .ok (.iload_n 2, 1) := by decide +kernel
theorem dX4_part_33 : decode cX4_part 33 = .ok (.iadd, 1) := by decide +kernel
theorem dX4_part_34 : decode cX4_part 34 = .ok (.istore_n 3, 1) := by decide +kernel
theorem dX4_part_35 : decode cX4_part 35 = .ok (.iload_n 3, 1) := by decide +kernel
theorem dX4_part_36 : decode cX4_part 36 = .ok (.aload_n 0, 1) := by decide +kernel
theorem dX4_part_37 : decode cX4_part 37 = .ok (.getfield 9, 3) := by decide +kernel
theorem dX4_part_40 : decode cX4_part 40 = .ok (.arraylength, 1) := by decide +kernel
theorem dX4_part_41 : decode cX4_part 41 = .ok (.if_icmp .ge 12, 3) := by decide +kernel
theorem dX4_part_44 : decode cX4_part 44 = .ok (.aload_n 0, 1) := by decide +kernel
theorem dX4_part_45 : decode cX4_part 45 = .ok (.getfield 9, 3) := by decide +kernel
theorem dX4_part_48 : decode cX4_part 48 = .ok (.iload_n 3, 1) := by decide +kernel
theorem dX4_part_49 : decode cX4_part 49 = .ok (.iaload, 1) := by decide +kernel
theorem dX4_part_50 : decode cX4_part 50 = .ok (.goto 4, 3) := by decide +kernel
theorem dX4_part_53 : decode cX4_part 53 = .ok (.iconst (-1), 1) := by decide +kernel
theorem dX4_part_54 : decode cX4_part 54 = .ok (.ireturn, 1) := by decide +kernel
