theorem dX2_init_0 : decode cX2_init 0 = .ok (.aload_n 0, 1) := by decide +kernel
theorem dX2_init_1 : decode cX2_init 1 = .ok (.invokespecial 3, 3) := by decide +kernel
theorem dX2_init_4 : decode cX2_init 4 = .ok (.aload_n 0, 1) := by decide +kernel
theorem dX2_init_5 : decode cX2_init 5 = .ok (.bipush 8, 2) := by decide +kernel
theorem dX2_init_7 : decode cX2_init 7 = .ok (.newarray .int, 2) := by decide +kernel
theorem dX2_init_9 : decode cX2_init 9 = .ok (.putfield 9, 3) := by decide +kernel
theorem dX2_init_12 : decode cX2_init 12 = .ok (.aload_n 0, 1) := by decide +kernel
theorem dX2_init_13 : decode cX2_init 13 = .ok (.sipush 240, 3) := by decide +kernel
theorem dX2_init_16 : decode cX2_init 16 = .ok (.newarray .int, 2) := by decide +kernel
theorem dX2_init_18 : decode cX2_init 18 = .ok (.putfield 15, 3) := by decide +kernel
theorem dX2_init_21 : decode cX2_init 21 = .ok (.aload_n 0, 1) := by decide +kernel
theorem dX2_init_22 : decode cX2_init 22 = .ok (.sipush 28800, 3) := by decide +kernel
theorem dX2_init_25 : decode cX2_init 25 = .ok (.newarray .int, 2) := by decide +kernel
theorem dX2_init_27 : decode cX2_init 27 = .ok (.putfield 18, 3) := by decide +kernel
theorem dX2_init_30 : decode cX2_init 30 = .ok (.return_, 1) := by decide +kernel
theorem dX2_hasFile_0 : decode cX2_hasFile 0 = .ok (.iload_n 1, 1) := by decide +kernel
theorem dX2_hasFile_1 : decode cX2_hasFile 1 = .ok (.ifCond .lt 24, 3) := by decide +kernel
theorem dX2_hasFile_4 : decode cX2_hasFile 4 = .ok (.iload_n 1, 1) := by decide +kernel
theorem dX2_hasFile_5 : decode cX2_hasFile 5 = .ok (.aload_n 0, 1) := by decide +kernel
theorem dX2_hasFile_6 : decode cX2_hasFile 6 = .ok (.getfield 21, 3) := by decide +kernel
theorem dX2_hasFile_9 : decode cX2_hasFile 9 = .ok (.if_icmp .ge 16, 3) := by decide +kernel
theorem dX2_hasFile_12 : decode cX2_hasFile 12 = .ok (.iload_n 1, 1) := by decide +kernel
theorem dX2_hasFile_13 : decode cX2_hasFile 13 = .ok (.aload_n 0, 1) := by decide +kernel
theorem dX2_hasFile_14 : decode cX2_hasFile 14 = .ok (.getfield 9, 3) := by decide +kernel
theorem dX2_hasFile_17 : decode cX2_hasFile 17 = .ok (.arraylength, 1) := by decide +kernel
theorem dX2_hasFile_18 : decode cX2_hasFile 18 = .ok (.if_icmp .ge 7, 3) := by decide +kernel
theorem dX2_hasFile_21 : decode cX2_hasFile 21 = .ok (.iconst 1, 1) := by decide +kernel
theorem dX2_hasFile_22 : decode cX2_hasFile 22 = .ok (.goto 4, 3) := by decide +kernel
theorem dX2_hasFile_25 : decode cX2_hasFile 25 = .ok (.iconst 0, 1) := by decide +kernel
theorem dX2_hasFile_26 : decode cX2_hasFile 26 = .ok (.ireturn, 1) := by decide +kernel
theorem dX2_newFile_0 : decode cX2_newFile 0 = .ok (.aload_n 0, 1) := by decide +kernel
theorem dX2_newFile_1 : decode cX2_newFile 1 = .ok (.getfield 21, 3) := by decide +kernel
theorem dX2_newFile_4 : decode cX2_newFile 4 = .ok (.bipush 8, 2) := by decide +kernel
theorem dX2_newFile_6 : decode cX2_newFile 6 = .ok (.if_icmp .lt 6, 3) := by decide +kernel
theorem dX2_newFile_9 : decode cX2_newFile 9 = .ok (.bipush (-4), 2) := by decide +kernel
theorem dX2_newFile_11 : decode cX2_newFile 11 = .ok (.ireturn, 1) := by decide +kernel
theorem dX2_newFile_12 : decode cX2_newFile 12 = .ok (.aload_n 0, 1) := by decide +kernel
theorem dX2_newFile_13 : decode cX2_newFile 13 = .ok (.dup, 1) := by decide +kernel
theorem dX2_newFile_14 : decode cX2_newFile 14 = .ok (.getfield 21, 3) := by decide +kernel
theorem dX2_newFile_17 : decode cX2_newFile 17 = .ok (.iconst 1, 1) := by decide +kernel
theorem dX2_newFile_18 : decode cX2_newFile 18 = .ok (.iadd, 1) := by decide +kernel
theorem dX2_newFile_19 : decode cX2_newFile 19 = .ok (.putfield 21, 3) := by decide +kernel
theorem dX2_newFile_22 : decode cX2_newFile 22 = .ok (.aload_n 0, 1) := by decide +kernel
theorem dX2_newFile_23 : decode cX2_newFile 23 = .ok (.getfield 21, 3) := by decide +kernel
theorem dX2_newFile_26 : decode cX2_newFile 26 = .ok (.iconst 1, 1) := by decide +kernel
theorem dX2_newFile_27 : decode cX2_newFile 27 = .ok (.isub, 1) := by decide +kernel
theorem dX2_newFile_28 : decode cX2_newFile 28 = .ok (.ireturn, 1) := by decide +kernel
theorem dX2_lineCount_0 : decode cX2_lineCount 0 = .ok (.aload_n 0, 1) := by decide +kernel
theorem dX2_lineCount_1 : decode cX2_lineCount 1 = .ok (.iload_n 1, 1) := by decide +kernel
theorem dX2_lineCount_2 : decode cX2_lineCount 2 = .ok (.invokevirtual 25, 3) := by decide +kernel
theorem dX2_lineCount_5 : decode cX2_lineCount 5 = .ok (.ifCond .eq 12, 3) := by decide +kernel
theorem dX2_lineCount_8 : decode cX2_lineCount 8 = .ok (.aload_n 0, 1) := by decide +kernel
theorem dX2_lineCount_9 : decode cX2_lineCount 9 = .ok (.getfield 9, 3) := by decide +kernel
theorem dX2_lineCount_12 : decode cX2_lineCount 12 = .ok (.iload_n 1, 1) := by decide +kernel
theorem dX2_lineCount_13 : decode cX2_lineCount 13 = .ok (.iaload, 1) := by decide +kernel
theorem dX2_lineCount_14 : decode cX2_lineCount 14 = .ok (.goto 4, 3) := by decide +kernel
theorem dX2_lineCount_17 : decode cX2_lineCount 17 = .ok (.iconst 0, 1) := by decide +kernel
theorem dX2_lineCount_18 : decode cX2_lineCount 18 = .ok (.ireturn, 1) := by decide +kernel
theorem dX2_newLine_0 : decode cX2_newLine 0 = .ok (.aload_n 0, 1) := by decide +kernel
theorem dX2_newLine_1 : decode cX2_newLine 1 = .ok (.iload_n 1, 1) := by decide +kernel
theorem dX2_newLine_2 : decode cX2_newLine 2 = .ok (.invokevirtual 29, 3) := by decide +kernel
theorem dX2_newLine_5 : decode cX2_newLine 5 = .ok (.istore_n 2, 1) := by decide +kernel
theorem dX2_newLine_6 : decode cX2_newLine 6 = .ok (.aload_n 0, 1) := by decide +kernel
theorem dX2_newLine_7 : decode cX2_newLine 7 = .ok (.iload_n 1, 1) := by decide +kernel
theorem dX2_newLine_8 : decode cX2_newLine 8 = .ok (.invokevirtual 25, 3) := by decide +kernel
theorem dX2_newLine_11 : decode cX2_newLine 11 = .ok (.ifCond .eq 9, 3) := by decide +kernel
theorem dX2_newLine_14 : decode cX2_newLine 14 = .ok (.iload_n 2, 1) := by decide +kernel
theorem dX2_newLine_15 : decode cX2_newLine 15 = .ok (.bipush 30, 2) := by decide +kernel
theorem dX2_newLine_17 : decode cX2_newLine 17 = .ok (.if_icmp .lt 6, 3) := by decide +kernel
theorem dX2_newLine_20 : decode cX2_newLine 20 = .ok (.bipush (-4), 2) := by decide +kernel
theorem dX2_newLine_22 : decode cX2_newLine 22 = .ok (.ireturn, 1) := by decide +kernel
theorem dX2_newLine_23 : decode cX2_newLine 23 = .ok (.aload_n 0, 1) := by decide +kernel
theorem dX2_newLine_24 : decode cX2_newLine 24 = .ok (.getfield 9, 3) := by decide +kernel
theorem dX2_newLine_27 : decode cX2_newLine 27 = .ok (.iload_n 1, 1) := by decide +kernel
theorem dX2_newLine_28 : decode cX2_newLine 28 = .ok (.iload_n 2, 1) := by decide +kernel
theorem dX2_newLine_29 : decode cX2_newLine 29 = .ok (.iconst 1, 1) := by decide +kernel
theorem dX2_newLine_30 : decode cX2_newLine 30 = .ok (.iadd, 1) := by decide +kernel
theorem dX2_newLine_31 : decode cX2_newLine 31 = .ok (.iastore, 1) := by decide +kernel
theorem dX2_newLine_32 : decode cX2_newLine 32 = .ok (.iload_n 2, 1) := by decide +kernel
theorem dX2_newLine_33 : decode cX2_newLine 33 = .ok (.iconst 1, 1) := by decide +kernel
theorem dX2_newLine_34 : decode cX2_newLine 34 = .ok (.iadd, 1) := by decide +kernel
theorem dX2_newLine_35 : decode cX2_newLine 35 = .ok (.ireturn, 1) := by decide +kernel
theorem dX2_append_0 : decode cX2_append 0 = .ok (.iload_n 1, 1) := by decide +kernel
theorem dX2_append_1 : decode cX2_append 1 = .ok (.bipush 30, 2) := by decide +kernel
theorem dX2_append_3 : decode cX2_append 3 = .ok (.imul, 1) := by decide +kernel
theorem dX2_append_4 : decode cX2_append 4 = .ok (.aload_n 0, 1) := by decide +kernel
theorem dX2_append_5 : decode cX2_append 5 = .ok (.iload_n 1, 1) := by decide +kernel
theorem dX2_append_6 : decode cX2_append 6 = .ok (.invokevirtual 29, 3) := by decide +kernel
theorem dX2_append_9 : decode cX2_append 9 = .ok (.iadd, 1) := by decide +kernel
theorem dX2_append_10 : decode cX2_append 10 = .ok (.iconst 1, 1) := by decide +kernel
theorem dX2_append_11 : decode cX2_append 11 = .ok (.isub, 1) := by decide +kernel
theorem dX2_append_12 : decode cX2_append 12 = .ok (.istore 5, 2) := by decide +kernel
theorem dX2_append_14 : decode cX2_append 14 = .ok (.aload_n 0, 1) := by decide +kernel
theorem dX2_append_15 : decode cX2_append 15 = .ok (.iload_n 1, 1) := by decide +kernel
theorem dX2_append_16 : decode cX2_append 16 = .ok (.invokevirtual 29, 3) := by decide +kernel
theorem dX2_append_19 : decode cX2_append 19 = .ok (.ifCond .le 18, 3) := by decide +kernel
theorem dX2_append_22 : decode cX2_append 22 = .ok (.iload 5, 2) := by decide +kernel
theorem dX2_append_24 : decode cX2_append 24 = .ok (.ifCond .lt 13, 3) := by decide +kernel
theorem dX2_append_27 : decode cX2_append 27 = .ok (.iload 5, 2) := by decide +kernel
theorem dX2_append_29 : decode cX2_append 29 = .ok (.aload_n 0, 1) := by decide +kernel
theorem dX2_append_30 : decode cX2_append 30 = .ok (.getfield 15, 3) := by decide +kernel
theorem dX2_append_33 : decode cX2_append 33 = .ok (.arraylength, 1) := by decide +kernel
theorem dX2_append_34 : decode cX2_append 34 = .ok (.if_icmp .lt 6, 3) := by decide +kernel
theorem dX2_append_37 : decode cX2_append 37 = .ok (.bipush (-3), 2) := by decide +kernel
theorem dX2_append_39 : decode cX2_append 39 = .ok (.ireturn, 1) := by decide +kernel
theorem dX2_append_40 : decode cX2_append 40 = .ok (.aload_n 0, 1) := by decide +kernel
theorem dX2_append_41 : decode cX2_append 41 = .ok (.getfield 15, 3) := by decide +kernel
theorem dX2_append_44 : decode cX2_append 44 = .ok (.iload 5, 2) := by decide +kernel
theorem dX2_append_46 : decode cX2_append 46 = .ok (.iaload, 1) := by decide +kernel
theorem dX2_append_47 : decode cX2_append 47 = .ok (.istore 6, 2) := by decide +kernel
theorem dX2_append_49 : decode cX2_append 49 = .ok (.iload 6, 2) := by decide +kernel
theorem dX2_append_51 : decode cX2_append 51 = .ok (.iload 4, 2) := by decide +kernel
theorem dX2_append_53 : decode cX2_append 53 = .ok (.iadd, 1) := by decide +kernel
theorem dX2_append_54 : decode cX2_append 54 = .ok (.bipush 120, 2) := by decide +kernel
theorem dX2_append_56 : decode cX2_append 56 = .ok (.if_icmp .le 6, 3) := by decide +kernel
theorem dX2_append_59 : decode cX2_append 59 = .ok (.bipush (-4), 2) := by decide +kernel
theorem dX2_append_61 : decode cX2_append 61 = .ok (.ireturn, 1) := by decide +kernel
theorem dX2_append_62 : decode cX2_append 62 = .ok (.iconst 0, 1) := by decide +kernel
theorem dX2_append_63 : decode cX2_append 63 = .ok (.istore 7, 2) := by decide +kernel
theorem dX2_append_65 : decode cX2_append 65 = .ok (.iload 7, 2) := by decide +kernel
theorem dX2_append_67 : decode cX2_append 67 = .ok (.iload 4, 2) := by decide +kernel
theorem dX2_append_69 : decode cX2_append 69 = .ok (.if_icmp .ge 41, 3) := by decide +kernel
theorem dX2_append_72 : decode cX2_append 72 = .ok (.aload_n 0, 1) := by decide +kernel
theorem dX2_append_73 : decode cX2_append 73 = .ok (.iload 5, 2) := by decide +kernel
theorem dX2_append_75 : decode cX2_append 75 = .ok (.bipush 120, 2) := by decide +kernel
theorem dX2_append_77 : decode cX2_append 77 = .ok (.imul, 1) := by decide +kernel
theorem dX2_append_78 : decode cX2_append 78 = .ok (.iload 6, 2) := by decide +kernel
theorem dX2_append_80 : decode cX2_append 80 = .ok (.iadd, 1) := by decide +kernel
theorem dX2_append_81 : decode cX2_append 81 = .ok (.iload 7, 2) := by decide +kernel
theorem dX2_append_83 : decode cX2_append 83 = .ok (.iadd, 1) := by decide +kernel
theorem dX2_append_84 : decode cX2_append 84 = .ok (.lload_n 2, 1) := by decide +kernel
theorem dX2_append_85 : decode cX2_append 85 = .ok (.bipush 8, 2) := by decide +kernel
theorem dX2_append_87 : decode cX2_append 87 = .ok (.iload 4, 2) := by decide +kernel
theorem dX2_append_89 : decode cX2_append 89 = .ok (.iconst 1, 1) := by decide +kernel
theorem dX2_append_90 : decode cX2_append 90 = .ok (.isub, 1) := by decide +kernel
theorem dX2_append_91 : decode cX2_append 91 = .ok (.iload 7, 2) := by decide +kernel
theorem dX2_append_93 : decode cX2_append 93 = .ok (.isub, 1) := by decide +kernel
theorem dX2_append_94 : decode cX2_append 94 = .ok (.imul, 1) := by decide +kernel
theorem dX2_append_95 : decode cX2_append 95 = .ok (.lushr, 1) := by decide +kernel
theorem dX2_append_96 : decode cX2_append 96 = .ok (.l2i, 1) := by decide +kernel
theorem dX2_append_97 : decode cX2_append 97 = .ok (.sipush 255, 3) := by decide +kernel
theorem dX2_append_100 : decode cX2_append 100 = .ok (.iand, 1) := by decide +kernel
theorem dX2_append_101 : decode cX2_append 101 = .ok (.invokevirtual 33, 3) := by decide +kernel
theorem dX2_append_104 : decode cX2_append 104 = .ok (.iinc 7 1, 3) := by decide +kernel
theorem dX2_append_107 : decode cX2_append 107 = .ok (.goto (-42), 3) := by decide +kernel
theorem dX2_append_110 : decode cX2_append 110 = .ok (.aload_n 0, 1) := by decide +kernel
theorem dX2_append_111 : decode cX2_append 111 = .ok (.getfield 15, 3) := by decide +kernel
theorem dX2_append_114 : decode cX2_append 114 = .ok (.iload 5, 2) := by decide +kernel
theorem dX2_append_116 : decode cX2_append 116 = .ok (.iload 6, 2) := by decide +kernel
theorem dX2_append_118 : decode cX2_append 118 = .ok (.iload 4, 2) := by decide +kernel
theorem dX2_append_120 : decode cX2_append 120 = .ok (.iadd, 1) := by decide +kernel
theorem dX2_append_121 : decode cX2_append 121 = .ok (.iastore, 1) := by decide +kernel
theorem dX2_append_122 : decode cX2_append 122 = .ok (.iload 6, 2) := by decide +kernel
theorem dX2_append_124 : decode cX2_append 124 = .ok (.iload 4, 2) := by decide +kernel
theorem dX2_append_126 : decode cX2_append 126 = .ok (.iadd, 1) := by decide +kernel
theorem dX2_append_127 : decode cX2_append 127 = .ok (.ireturn, 1) := by decide +kernel
theorem dX2_putSign_0 : decode cX2_putSign 0 = .ok (.iload_n 1, 1) := by decide +kernel
theorem dX2_putSign_1 : decode cX2_putSign 1 = .ok (.ifCond .lt 19, 3) := by decide +kernel
theorem dX2_putSign_4 : decode cX2_putSign 4 = .ok (.iload_n 1, 1) := by decide +kernel
theorem dX2_putSign_5 : decode cX2_putSign 5 = .ok (.aload_n 0, 1) := by decide +kernel
theorem dX2_putSign_6 : decode cX2_putSign 6 = .ok (.getfield 18, 3) := by decide +kernel
theorem dX2_putSign_9 : decode cX2_putSign 9 = .ok (.arraylength, 1) := by decide +kernel
theorem dX2_putSign_10 : decode cX2_putSign 10 = .ok (.if_icmp .ge 10, 3) := by decide +kernel
theorem dX2_putSign_13 : decode cX2_putSign 13 = .ok (.aload_n 0, 1) := by decide +kernel
theorem dX2_putSign_14 : decode cX2_putSign 14 = .ok (.getfield 18, 3) := by decide +kernel
theorem dX2_putSign_17 : decode cX2_putSign 17 = .ok (.iload_n 1, 1) := by decide +kernel
theorem dX2_putSign_18 : decode cX2_putSign 18 = .ok (.iload_n 2, 1) := by decide +kernel
theorem dX2_putSign_19 : decode cX2_putSign 19 = .ok (.iastore, 1) := by decide +kernel
theorem dX2_putSign_20 : decode cX2_putSign 20 = .ok (.return_, 1) := by decide +kernel
theorem dX2_copyLine_0 : decode cX2_copyLine 0 = .ok (.iload_n 1, 1) := by decide +kernel
theorem dX2_copyLine_1 : decode cX2_copyLine 1 = .ok (.bipush 30, 2) := by decide +kernel
theorem dX2_copyLine_3 : decode cX2_copyLine 3 = .ok (.imul, 1) := by decide +kernel
theorem dX2_copyLine_4 : decode cX2_copyLine 4 = .ok (.iload_n 2, 1) := by decide +kernel
theorem dX2_copyLine_5 : decode cX2_copyLine 5 = .ok (.iadd, 1) := by decide +kernel
theorem dX2_copyLine_6 : decode cX2_copyLine 6 = .ok (.istore 4, 2) := by decide +kernel
theorem dX2_copyLine_8 : decode cX2_copyLine 8 = .ok (.iload_n 2, 1) := by decide +kernel
theorem dX2_copyLine_9 : decode cX2_copyLine 9 = .ok (.ifCond .lt 22, 3) := by decide +kernel
theorem dX2_copyLine_12 : decode cX2_copyLine 12 = .ok (.iload_n 2, 1) := by decide +kernel
theorem dX2_copyLine_13 : decode cX2_copyLine 13 = .ok (.aload_n 0, 1) := by decide +kernel
theorem dX2_copyLine_14 : decode cX2_copyLine 14 = .ok (.iload_n 1, 1) := by decide +kernel
theorem dX2_copyLine_15 : decode cX2_copyLine 15 = .ok (.invokevirtual 29, 3) := by decide +kernel
theorem dX2_copyLine_18 : decode cX2_copyLine 18 = .ok (.if_icmp .ge 13, 3) := by decide +kernel
theorem dX2_copyLine_21 : decode cX2_copyLine 21 = .ok (.iload 4, 2) := by decide +kernel
theorem dX2_copyLine_23 : decode cX2_copyLine 23 = .ok (.aload_n 0, 1) := by decide +kernel
theorem dX2_copyLine_24 : decode cX2_copyLine 24 = .ok (.getfield 15, 3) := by decide +kernel
theorem dX2_copyLine_27 : decode cX2_copyLine 27 = .ok (.arraylength, 1) := by decide +kernel
theorem dX2_copyLine_28 : decode cX2_copyLine 28 = .ok (.if_icmp .lt 5, 3) := by decide +kernel
theorem dX2_copyLine_31 : decode cX2_copyLine 31 = .ok (.iconst 0, 1) := by decide +kernel
theorem dX2_copyLine_32 : decode cX2_copyLine 32 = .ok (.ireturn, 1) := by decide +kernel
theorem dX2_copyLine_33 : decode cX2_copyLine 33 = .ok (.iload 4, 2) := by decide +kernel
theorem dX2_copyLine_35 : decode cX2_copyLine 35 = .ok (.bipush 120, 2) := by decide +kernel
theorem dX2_copyLine_37 : decode cX2_copyLine 37 = .ok (.imul, 1) := by decide +kernel
theorem dX2_copyLine_38 : decode cX2_copyLine 38 = .ok (.istore 5, 2) := by decide +kernel
theorem dX2_copyLine_40 : decode cX2_copyLine 40 = .ok (.aload_n 0, 1) := by decide +kernel
theorem dX2_copyLine_41 : decode cX2_copyLine 41 = .ok (.getfield 15, 3) := by decide +kernel
theorem dX2_copyLine_44 : decode cX2_copyLine 44 = .ok (.iload 4, 2) := by decide +kernel
theorem dX2_copyLine_46 : decode cX2_copyLine 46 = .ok (.iaload, 1) := by decide +kernel
theorem dX2_copyLine_47 : decode cX2_copyLine 47 = .ok (.istore 6, 2) := by decide +kernel
theorem dX2_copyLine_49 : decode cX2_copyLine 49 = .ok (.iload 6, 2) := by decide +kernel
theorem dX2_copyLine_51 : decode cX2_copyLine 51 = .ok (.ifCond .le 25, 3) := by decide +kernel
theorem dX2_copyLine_54 : decode cX2_copyLine 54 = .ok (.aload_n 0, 1) := by decide +kernel
theorem dX2_copyLine_55 : decode cX2_copyLine 55 = .ok (.iload 5, 2) := by decide +kernel
theorem dX2_copyLine_57 : decode cX2_copyLine 57 = .ok (.iload 6, 2) := by decide +kernel
theorem dX2_copyLine_59 : decode cX2_copyLine 59 = .ok (.iadd, 1) := by decide +kernel
theorem dX2_copyLine_60 : decode cX2_copyLine 60 = .ok (.iconst 1, 1) := by decide +kernel
theorem dX2_copyLine_61 : decode cX2_copyLine 61 = .ok (.isub, 1) := by decide +kernel
theorem dX2_copyLine_62 : decode cX2_copyLine 62 = .ok (.invokevirtual 37, 3) := by decide +kernel
theorem dX2_copyLine_65 : decode cX2_copyLine 65 = .ok (.bipush 32, 2) := by decide +kernel
theorem dX2_copyLine_67 : decode cX2_copyLine 67 = .ok (.if_icmp .ne 9, 3) := by decide +kernel
theorem dX2_copyLine_70 : decode cX2_copyLine 70 = .ok (.iinc 6 (-1), 3) := by decide +kernel
theorem dX2_copyLine_73 : decode cX2_copyLine 73 = .ok (.goto (-24), 3) := by decide +kernel
theorem dX2_copyLine_76 : decode cX2_copyLine 76 = .ok (.iconst 0, 1) := by decide +kernel
theorem dX2_copyLine_77 : decode cX2_copyLine 77 = .ok (.istore 7, 2) := by decide +kernel
theorem dX2_copyLine_79 : decode cX2_copyLine 79 = .ok (.iload 7, 2) := by decide +kernel
theorem dX2_copyLine_81 : decode cX2_copyLine 81 = .ok (.iload 6, 2) := by decide +kernel
theorem dX2_copyLine_83 : decode cX2_copyLine 83 = .ok (.if_icmp .ge 29, 3) := by decide +kernel
theorem dX2_copyLine_86 : decode cX2_copyLine 86 = .ok (.iload 7, 2) := by decide +kernel
theorem dX2_copyLine_88 : decode cX2_copyLine 88 = .ok (.aload_n 3, 1) := by decide +kernel
theorem dX2_copyLine_89 : decode cX2_copyLine 89 = .ok (.arraylength, 1) := by decide +kernel
theorem dX2_copyLine_90 : decode cX2_copyLine 90 = .ok (.if_icmp .ge 22, 3) := by decide +kernel
theorem dX2_copyLine_93 : decode cX2_copyLine 93 = .ok (.aload_n 3, 1) := by decide +kernel
theorem dX2_copyLine_94 : decode cX2_copyLine 94 = .ok (.iload 7, 2) := by decide +kernel
theorem dX2_copyLine_96 : decode cX2_copyLine 96 = .ok (.aload_n 0, 1) := by decide +kernel
theorem dX2_copyLine_97 : decode cX2_copyLine 97 = .ok (.iload 5, 2) := by decide +kernel
theorem dX2_copyLine_99 : decode cX2_copyLine 99 = .ok (.iload 7, 2) := by decide +kernel
theorem dX2_copyLine_101 : decode cX2_copyLine 101 = .ok (.iadd, 1) := by decide +kernel
theorem dX2_copyLine_102 : decode cX2_copyLine 102 = .ok (.invokevirtual 37, 3) := by decide +kernel
theorem dX2_copyLine_105 : decode cX2_copyLine 105 = .ok (.iastore, 1) := by decide +kernel
theorem dX2_copyLine_106 : decode cX2_copyLine 106 = .ok (.iinc 7 1, 3) := by decide +kernel
theorem dX2_copyLine_109 : decode cX2_copyLine 109 = .ok (.goto (-30), 3) := by decide +kernel
theorem dX2_copyLine_112 : decode cX2_copyLine 112 = .ok (.iload 6, 2) := by decide +kernel
theorem dX2_copyLine_114 : decode cX2_copyLine 114 = .ok (.ireturn, 1) := by decide +kernel
theorem dX2_signAt_0 : decode cX2_signAt 0 = .ok (.iload_n 1, 1) := by decide +kernel
theorem dX2_signAt_1 : decode cX2_signAt 1 = .ok (.ifCond .lt 21, 3) := by decide +kernel
theorem dX2_signAt_4 : decode cX2_signAt 4 = .ok (.iload_n 1, 1) := by decide +kernel
theorem dX2_signAt_5 : decode cX2_signAt 5 = .ok (.aload_n 0, 1) := by decide +kernel
theorem dX2_signAt_6 : decode cX2_signAt 6 = .ok (.getfield 18, 3) := by decide +kernel
theorem dX2_signAt_9 : decode cX2_signAt 9 = .ok (.arraylength, 1) := by decide +kernel
theorem dX2_signAt_10 : decode cX2_signAt 10 = .ok (.if_icmp .ge 12, 3) := by decide +kernel
theorem dX2_signAt_13 : decode cX2_signAt 13 = .ok (.aload_n 0, 1) := by decide +kernel
theorem dX2_signAt_14 : decode cX2_signAt 14 = .ok (.getfield 18, 3) := by decide +kernel
theorem dX2_signAt_17 : decode cX2_signAt 17 = .ok (.iload_n 1, 1) := by decide +kernel
theorem dX2_signAt_18 : decode cX2_signAt 18 = .ok (.iaload, 1) := by decide +kernel
theorem dX2_signAt_19 : decode cX2_signAt 19 = .ok (.goto 4, 3) := by decide +kernel
theorem dX2_signAt_22 : decode cX2_signAt 22 = .ok (.iconst (-1), 1) := by decide +kernel
theorem dX2_signAt_23 : decode cX2_signAt 23 = .ok (.ireturn, 1) := by decide +kernel
