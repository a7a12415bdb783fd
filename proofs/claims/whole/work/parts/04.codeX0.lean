theorem dX0_init_0 : decode cX0_init 0 = .ok (.aload_n 0, 1) := by decide +kernel
theorem dX0_init_1 : decode cX0_init 1 = .ok (.invokespecial 3, 3) := by decide +kernel
theorem dX0_init_4 : decode cX0_init 4 = .ok (.aload_n 0, 1) := by decide +kernel
theorem dX0_init_5 : decode cX0_init 5 = .ok (.sipush 256, 3) := by decide +kernel
theorem dX0_init_8 : decode cX0_init 8 = .ok (.newarray .int, 2) := by decide +kernel
theorem dX0_init_10 : decode cX0_init 10 = .ok (.putfield 9, 3) := by decide +kernel
theorem dX0_init_13 : decode cX0_init 13 = .ok (.aload_n 0, 1) := by decide +kernel
theorem dX0_init_14 : decode cX0_init 14 = .ok (.sipush 5120, 3) := by decide +kernel
theorem dX0_init_17 : decode cX0_init 17 = .ok (.newarray .int, 2) := by decide +kernel
theorem dX0_init_19 : decode cX0_init 19 = .ok (.putfield 15, 3) := by decide +kernel
theorem dX0_init_22 : decode cX0_init 22 = .ok (.iconst 0, 1) := by decide +kernel
theorem dX0_init_23 : decode cX0_init 23 = .ok (.istore_n 1, 1) := by decide +kernel
theorem dX0_init_24 : decode cX0_init 24 = .ok (.iload_n 1, 1) := by decide +kernel
theorem dX0_init_25 : decode cX0_init 25 = .ok (.sipush 256, 3) := by decide +kernel
theorem dX0_init_28 : decode cX0_init 28 = .ok (.if_icmp .ge 29, 3) := by decide +kernel
theorem dX0_init_31 : decode cX0_init 31 = .ok (.aload_n 0, 1) := by decide +kernel
theorem dX0_init_32 : decode cX0_init 32 = .ok (.getfield 9, 3) := by decide +kernel
theorem dX0_init_35 : decode cX0_init 35 = .ok (.iload_n 1, 1) := by decide +kernel
theorem dX0_init_36 : decode cX0_init 36 = .ok (.iload_n 1, 1) := by decide +kernel
theorem dX0_init_37 : decode cX0_init 37 = .ok (.invokestatic 18, 3) := by decide +kernel
theorem dX0_init_40 : decode cX0_init 40 = .ok (.ifCond .eq 8, 3) := by decide +kernel
theorem dX0_init_43 : decode cX0_init 43 = .ok (.bipush 11, 2) := by decide +kernel
theorem dX0_init_45 : decode cX0_init 45 = .ok (.goto 5, 3) := by decide +kernel
theorem dX0_init_48 : decode cX0_init 48 = .ok (.bipush 12, 2) := by decide +kernel
theorem dX0_init_50 : decode cX0_init 50 = .ok (.iastore, 1) := by decide +kernel
theorem dX0_init_51 : decode cX0_init 51 = .ok (.iinc 1 1, 3) := by decide +kernel
theorem dX0_init_54 : decode cX0_init 54 = .ok (.goto (-30), 3) := by decide +kernel
theorem dX0_init_57 : decode cX0_init 57 = .ok (.aload_n 0, 1) := by decide +kernel
theorem dX0_init_58 : decode cX0_init 58 = .ok (.getfield 9, 3) := by decide +kernel
theorem dX0_init_61 : decode cX0_init 61 = .ok (.bipush 92, 2) := by decide +kernel
theorem dX0_init_63 : decode cX0_init 63 = .ok (.iconst 0, 1) := by decide +kernel
theorem dX0_init_64 : decode cX0_init 64 = .ok (.iastore, 1) := by decide +kernel
theorem dX0_init_65 : decode cX0_init 65 = .ok (.aload_n 0, 1) := by decide +kernel
theorem dX0_init_66 : decode cX0_init 66 = .ok (.getfield 9, 3) := by decide +kernel
theorem dX0_init_69 : decode cX0_init 69 = .ok (.bipush 123, 2) := by decide +kernel
theorem dX0_init_71 : decode cX0_init 71 = .ok (.iconst 1, 1) := by decide +kernel
theorem dX0_init_72 : decode cX0_init 72 = .ok (.iastore, 1) := by decide +kernel
theorem dX0_init_73 : decode cX0_init 73 = .ok (.aload_n 0, 1) := by decide +kernel
theorem dX0_init_74 : decode cX0_init 74 = .ok (.getfield 9, 3) := by decide +kernel
theorem dX0_init_77 : decode cX0_init 77 = .ok (.bipush 125, 2) := by decide +kernel
theorem dX0_init_79 : decode cX0_init 79 = .ok (.iconst 2, 1) := by decide +kernel
theorem dX0_init_80 : decode cX0_init 80 = .ok (.iastore, 1) := by decide +kernel
theorem dX0_init_81 : decode cX0_init 81 = .ok (.aload_n 0, 1) := by decide +kernel
theorem dX0_init_82 : decode cX0_init 82 = .ok (.getfield 9, 3) := by decide +kernel
theorem dX0_init_85 : decode cX0_init 85 = .ok (.bipush 13, 2) := by decide +kernel
theorem dX0_init_87 : decode cX0_init 87 = .ok (.iconst 5, 1) := by decide +kernel
theorem dX0_init_88 : decode cX0_init 88 = .ok (.iastore, 1) := by decide +kernel
theorem dX0_init_89 : decode cX0_init 89 = .ok (.aload_n 0, 1) := by decide +kernel
theorem dX0_init_90 : decode cX0_init 90 = .ok (.getfield 9, 3) := by decide +kernel
theorem dX0_init_93 : decode cX0_init 93 = .ok (.bipush 94, 2) := by decide +kernel
theorem dX0_init_95 : decode cX0_init 95 = .ok (.bipush 7, 2) := by decide +kernel
theorem dX0_init_97 : decode cX0_init 97 = .ok (.iastore, 1) := by decide +kernel
theorem dX0_init_98 : decode cX0_init 98 = .ok (.aload_n 0, 1) := by decide +kernel
theorem dX0_init_99 : decode cX0_init 99 = .ok (.getfield 9, 3) := by decide +kernel
theorem dX0_init_102 : decode cX0_init 102 = .ok (.iconst 0, 1) := by decide +kernel
theorem dX0_init_103 : decode cX0_init 103 = .ok (.bipush 9, 2) := by decide +kernel
theorem dX0_init_105 : decode cX0_init 105 = .ok (.iastore, 1) := by decide +kernel
theorem dX0_init_106 : decode cX0_init 106 = .ok (.aload_n 0, 1) := by decide +kernel
theorem dX0_init_107 : decode cX0_init 107 = .ok (.getfield 9, 3) := by decide +kernel
theorem dX0_init_110 : decode cX0_init 110 = .ok (.bipush 32, 2) := by decide +kernel
theorem dX0_init_112 : decode cX0_init 112 = .ok (.bipush 10, 2) := by decide +kernel
theorem dX0_init_114 : decode cX0_init 114 = .ok (.iastore, 1) := by decide +kernel
theorem dX0_init_115 : decode cX0_init 115 = .ok (.aload_n 0, 1) := by decide +kernel
theorem dX0_init_116 : decode cX0_init 116 = .ok (.getfield 9, 3) := by decide +kernel
theorem dX0_init_119 : decode cX0_init 119 = .ok (.bipush 126, 2) := by decide +kernel
theorem dX0_init_121 : decode cX0_init 121 = .ok (.bipush 13, 2) := by decide +kernel
theorem dX0_init_123 : decode cX0_init 123 = .ok (.iastore, 1) := by decide +kernel
theorem dX0_init_124 : decode cX0_init 124 = .ok (.aload_n 0, 1) := by decide +kernel
theorem dX0_init_125 : decode cX0_init 125 = .ok (.getfield 9, 3) := by decide +kernel
theorem dX0_init_128 : decode cX0_init 128 = .ok (.bipush 37, 2) := by decide +kernel
theorem dX0_init_130 : decode cX0_init 130 = .ok (.bipush 14, 2) := by decide +kernel
theorem dX0_init_132 : decode cX0_init 132 = .ok (.iastore, 1) := by decide +kernel
theorem dX0_init_133 : decode cX0_init 133 = .ok (.aload_n 0, 1) := by decide +kernel
theorem dX0_init_134 : decode cX0_init 134 = .ok (.getfield 9, 3) := by decide +kernel
theorem dX0_init_137 : decode cX0_init 137 = .ok (.bipush 127, 2) := by decide +kernel
theorem dX0_init_139 : decode cX0_init 139 = .ok (.bipush 15, 2) := by decide +kernel
theorem dX0_init_141 : decode cX0_init 141 = .ok (.iastore, 1) := by decide +kernel
theorem dX0_init_142 : decode cX0_init 142 = .ok (.return_, 1) := by decide +kernel
theorem dX0_isLatinLetter_0 : decode cX0_isLatinLetter 0 = .ok (.iload_n 0, 1) := by decide +kernel
theorem dX0_isLatinLetter_1 : decode cX0_isLatinLetter 1 = .ok (.bipush 65, 2) := by decide +kernel
theorem dX0_isLatinLetter_3 : decode cX0_isLatinLetter 3 = .ok (.if_icmp .lt 9, 3) := by decide +kernel
theorem dX0_isLatinLetter_6 : decode cX0_isLatinLetter 6 = .ok (.iload_n 0, 1) := by decide +kernel
theorem dX0_isLatinLetter_7 : decode cX0_isLatinLetter 7 = .ok (.bipush 90, 2) := by decide +kernel
theorem dX0_isLatinLetter_9 : decode cX0_isLatinLetter 9 = .ok (.if_icmp .le 15, 3) := by decide +kernel
theorem dX0_isLatinLetter_12 : decode cX0_isLatinLetter 12 = .ok (.iload_n 0, 1) := by decide +kernel
theorem dX0_isLatinLetter_13 : decode cX0_isLatinLetter 13 = .ok (.bipush 97, 2) := by decide +kernel
theorem dX0_isLatinLetter_15 : decode cX0_isLatinLetter 15 = .ok (.if_icmp .lt 13, 3) := by decide +kernel
theorem dX0_isLatinLetter_18 : decode cX0_isLatinLetter 18 = .ok (.iload_n 0, 1) := by decide +kernel
theorem dX0_isLatinLetter_19 : decode cX0_isLatinLetter 19 = .ok (.bipush 122, 2) := by decide +kernel
theorem dX0_isLatinLetter_21 : decode cX0_isLatinLetter 21 = .ok (.if_icmp .gt 7, 3) := by decide +kernel
theorem dX0_isLatinLetter_24 : decode cX0_isLatinLetter 24 = .ok (.iconst 1, 1) := by decide +kernel
theorem dX0_isLatinLetter_25 : decode cX0_isLatinLetter 25 = .ok (.goto 4, 3) := by decide +kernel
theorem dX0_isLatinLetter_28 : decode cX0_isLatinLetter 28 = .ok (.iconst 0, 1) := by decide +kernel
theorem dX0_isLatinLetter_29 : decode cX0_isLatinLetter 29 = .ok (.ireturn, 1) := by decide +kernel
theorem dX0_at_0 : decode cX0_at 0 = .ok (.iload_n 1, 1) := by decide +kernel
theorem dX0_at_1 : decode cX0_at 1 = .ok (.ifCond .lt 21, 3) := by decide +kernel
theorem dX0_at_4 : decode cX0_at 4 = .ok (.iload_n 1, 1) := by decide +kernel
theorem dX0_at_5 : decode cX0_at 5 = .ok (.aload_n 0, 1) := by decide +kernel
theorem dX0_at_6 : decode cX0_at 6 = .ok (.getfield 9, 3) := by decide +kernel
theorem dX0_at_9 : decode cX0_at 9 = .ok (.arraylength, 1) := by decide +kernel
theorem dX0_at_10 : decode cX0_at 10 = .ok (.if_icmp .ge 12, 3) := by decide +kernel
theorem dX0_at_13 : decode cX0_at 13 = .ok (.aload_n 0, 1) := by decide +kernel
theorem dX0_at_14 : decode cX0_at 14 = .ok (.getfield 9, 3) := by decide +kernel
theorem dX0_at_17 : decode cX0_at 17 = .ok (.iload_n 1, 1) := by decide +kernel
theorem dX0_at_18 : decode cX0_at 18 = .ok (.iaload, 1) := by decide +kernel
theorem dX0_at_19 : decode cX0_at 19 = .ok (.goto 4, 3) := by decide +kernel
theorem dX0_at_22 : decode cX0_at 22 = .ok (.iconst (-1), 1) := by decide +kernel
theorem dX0_at_23 : decode cX0_at 23 = .ok (.ireturn, 1) := by decide +kernel
theorem dX0_setHere_0 : decode cX0_setHere 0 = .ok (.iload_n 1, 1) := by decide +kernel
theorem dX0_setHere_1 : decode cX0_setHere 1 = .ok (.ifCond .lt 19, 3) := by decide +kernel
theorem dX0_setHere_4 : decode cX0_setHere 4 = .ok (.iload_n 1, 1) := by decide +kernel
theorem dX0_setHere_5 : decode cX0_setHere 5 = .ok (.aload_n 0, 1) := by decide +kernel
theorem dX0_setHere_6 : decode cX0_setHere 6 = .ok (.getfield 9, 3) := by decide +kernel
theorem dX0_setHere_9 : decode cX0_setHere 9 = .ok (.arraylength, 1) := by decide +kernel
theorem dX0_setHere_10 : decode cX0_setHere 10 = .ok (.if_icmp .ge 10, 3) := by decide +kernel
theorem dX0_setHere_13 : decode cX0_setHere 13 = .ok (.aload_n 0, 1) := by decide +kernel
theorem dX0_setHere_14 : decode cX0_setHere 14 = .ok (.getfield 9, 3) := by decide +kernel
theorem dX0_setHere_17 : decode cX0_setHere 17 = .ok (.iload_n 1, 1) := by decide +kernel
theorem dX0_setHere_18 : decode cX0_setHere 18 = .ok (.iload_n 2, 1) := by decide +kernel
theorem dX0_setHere_19 : decode cX0_setHere 19 = .ok (.iastore, 1) := by decide +kernel
theorem dX0_setHere_20 : decode cX0_setHere 20 = .ok (.return_, 1) := by decide +kernel
theorem dX0_setEverywhere_0 : decode cX0_setEverywhere 0 = .ok (.aload_n 0, 1) := by decide +kernel
theorem dX0_setEverywhere_1 : decode cX0_setEverywhere 1 = .ok (.iload_n 1, 1) := by decide +kernel
theorem dX0_setEverywhere_2 : decode cX0_setEverywhere 2 = .ok (.iload_n 2, 1) := by decide +kernel
theorem dX0_setEverywhere_3 : decode cX0_setEverywhere 3 = .ok (.invokevirtual 22, 3) := by decide +kernel
theorem dX0_setEverywhere_6 : decode cX0_setEverywhere 6 = .ok (.iload_n 1, 1) := by decide +kernel
theorem dX0_setEverywhere_7 : decode cX0_setEverywhere 7 = .ok (.ifCond .lt 10, 3) := by decide +kernel
theorem dX0_setEverywhere_10 : decode cX0_setEverywhere 10 = .ok (.iload_n 1, 1) := by decide +kernel
theorem dX0_setEverywhere_11 : decode cX0_setEverywhere 11 = .ok (.sipush 256, 3) := by decide +kernel
theorem dX0_setEverywhere_14 : decode cX0_setEverywhere 14 = .ok (.if_icmp .lt 4, 3) := by decide +kernel
theorem dX0_setEverywhere_17 : decode cX0_setEverywhere 17 = .ok (.return_, 1) := by decide +kernel
theorem dX0_setEverywhere_18 : decode cX0_setEverywhere 18 = .ok (.iload_n 1, 1) := by decide +kernel
theorem dX0_setEverywhere_19 : decode cX0_setEverywhere 19 = .ok (.istore_n 3, 1) := by decide +kernel
theorem dX0_setEverywhere_20 : decode cX0_setEverywhere 20 = .ok (.iload_n 3, 1) := by decide +kernel
theorem dX0_setEverywhere_21 : decode cX0_setEverywhere 21 = .ok (.aload_n 0, 1) := by decide +kernel
theorem dX0_setEverywhere_22 : decode cX0_setEverywhere 22 = .ok (.getfield 26, 3) := by decide +kernel
theorem dX0_setEverywhere_25 : decode cX0_setEverywhere 25 = .ok (.sipush 256, 3) := by decide +kernel
theorem dX0_setEverywhere_28 : decode cX0_setEverywhere 28 = .ok (.imul, 1) := by decide +kernel
theorem dX0_setEverywhere_29 : decode cX0_setEverywhere 29 = .ok (.if_icmp .ge 28, 3) := by decide +kernel
theorem dX0_setEverywhere_32 : decode cX0_setEverywhere 32 = .ok (.iload_n 3, 1) := by decide +kernel
theorem dX0_setEverywhere_33 : decode cX0_setEverywhere 33 = .ok (.aload_n 0, 1) := by decide +kernel
theorem dX0_setEverywhere_34 : decode cX0_setEverywhere 34 = .ok (.getfield 15, 3) := by decide +kernel
theorem dX0_setEverywhere_37 : decode cX0_setEverywhere 37 = .ok (.arraylength, 1) := by decide +kernel
theorem dX0_setEverywhere_38 : decode cX0_setEverywhere 38 = .ok (.if_icmp .ge 19, 3) := by decide +kernel
theorem dX0_setEverywhere_41 : decode cX0_setEverywhere 41 = .ok (.aload_n 0, 1) := by decide +kernel
theorem dX0_setEverywhere_42 : decode cX0_setEverywhere 42 = .ok (.getfield 15, 3) := by decide +kernel
theorem dX0_setEverywhere_45 : decode cX0_setEverywhere 45 = .ok (.iload_n 3, 1) := by decide +kernel
theorem dX0_setEverywhere_46 : decode cX0_setEverywhere 46 = .ok (.iload_n 2, 1) := by decide +kernel
theorem dX0_setEverywhere_47 : decode cX0_setEverywhere 47 = .ok (.iastore, 1) := by decide +kernel
theorem dX0_setEverywhere_48 : decode cX0_setEverywhere 48 = .ok (.iinc 3 256, 6) := by decide +kernel
theorem dX0_setEverywhere_54 : decode cX0_setEverywhere 54 = .ok (.goto (-34), 3) := by decide +kernel
theorem dX0_setEverywhere_57 : decode cX0_setEverywhere 57 = .ok (.return_, 1) := by decide +kernel
theorem dX0_beginGroup_0 : decode cX0_beginGroup 0 = .ok (.aload_n 0, 1) := by decide +kernel
theorem dX0_beginGroup_1 : decode cX0_beginGroup 1 = .ok (.getfield 26, 3) := by decide +kernel
theorem dX0_beginGroup_4 : decode cX0_beginGroup 4 = .ok (.ifCond .lt 12, 3) := by decide +kernel
theorem dX0_beginGroup_7 : decode cX0_beginGroup 7 = .ok (.aload_n 0, 1) := by decide +kernel
theorem dX0_beginGroup_8 : decode cX0_beginGroup 8 = .ok (.getfield 26, 3) := by decide +kernel
theorem dX0_beginGroup_11 : decode cX0_beginGroup 11 = .ok (.bipush 20, 2) := by decide +kernel
theorem dX0_beginGroup_13 : decode cX0_beginGroup 13 = .ok (.if_icmp .lt 5, 3) := by decide +kernel
theorem dX0_beginGroup_16 : decode cX0_beginGroup 16 = .ok (.iconst 0, 1) := by decide +kernel
theorem dX0_beginGroup_17 : decode cX0_beginGroup 17 = .ok (.ireturn, 1) := by decide +kernel
theorem dX0_beginGroup_18 : decode cX0_beginGroup 18 = .ok (.aload_n 0, 1) := by decide +kernel
theorem dX0_beginGroup_19 : decode cX0_beginGroup 19 = .ok (.getfield 9, 3) := by decide +kernel
theorem dX0_beginGroup_22 : decode cX0_beginGroup 22 = .ok (.iconst 0, 1) := by decide +kernel
theorem dX0_beginGroup_23 : decode cX0_beginGroup 23 = .ok (.aload_n 0, 1) := by decide +kernel
theorem dX0_beginGroup_24 : decode cX0_beginGroup 24 = .ok (.getfield 15, 3) := by decide +kernel
theorem dX0_beginGroup_27 : decode cX0_beginGroup 27 = .ok (.aload_n 0, 1) := by decide +kernel
theorem dX0_beginGroup_28 : decode cX0_beginGroup 28 = .ok (.getfield 26, 3) := by decide +kernel
theorem dX0_beginGroup_31 : decode cX0_beginGroup 31 = .ok (.sipush 256, 3) := by decide +kernel
theorem dX0_beginGroup_34 : decode cX0_beginGroup 34 = .ok (.imul, 1) := by decide +kernel
theorem dX0_beginGroup_35 : decode cX0_beginGroup 35 = .ok (.sipush 256, 3) := by decide +kernel
theorem dX0_beginGroup_38 : decode cX0_beginGroup 38 = .ok (.invokestatic 30, 3) := by decide +kernel
theorem dX0_beginGroup_41 : decode cX0_beginGroup 41 = .ok (.aload_n 0, 1) := by decide +kernel
theorem dX0_beginGroup_42 : decode cX0_beginGroup 42 = .ok (.dup, 1) := by decide +kernel
theorem dX0_beginGroup_43 : decode cX0_beginGroup 43 = .ok (.getfield 26, 3) := by decide +kernel
theorem dX0_beginGroup_46 : decode cX0_beginGroup 46 = .ok (.iconst 1, 1) := by decide +kernel
theorem dX0_beginGroup_47 : decode cX0_beginGroup 47 = .ok (.iadd, 1) := by decide +kernel
theorem dX0_beginGroup_48 : decode cX0_beginGroup 48 = .ok (.putfield 26, 3) := by decide +kernel
theorem dX0_beginGroup_51 : decode cX0_beginGroup 51 = .ok (.iconst 1, 1) := by decide +kernel
theorem dX0_beginGroup_52 : decode cX0_beginGroup 52 = .ok (.ireturn, 1) := by decide +kernel
theorem dX0_endGroup_0 : decode cX0_endGroup 0 = .ok (.aload_n 0, 1) := by decide +kernel
theorem dX0_endGroup_1 : decode cX0_endGroup 1 = .ok (.getfield 26, 3) := by decide +kernel
theorem dX0_endGroup_4 : decode cX0_endGroup 4 = .ok (.ifCond .le 12, 3) := by decide +kernel
theorem dX0_endGroup_7 : decode cX0_endGroup 7 = .ok (.aload_n 0, 1) := by decide +kernel
theorem dX0_endGroup_8 : decode cX0_endGroup 8 = .ok (.getfield 26, 3) := by decide +kernel
theorem dX0_endGroup_11 : decode cX0_endGroup 11 = .ok (.bipush 20, 2) := by decide +kernel
theorem dX0_endGroup_13 : decode cX0_endGroup 13 = .ok (.if_icmp .le 5, 3) := by decide +kernel
theorem dX0_endGroup_16 : decode cX0_endGroup 16 = .ok (.iconst 0, 1) := by decide +kernel
theorem dX0_endGroup_17 : decode cX0_endGroup 17 = .ok (.ireturn, 1) := by decide +kernel
theorem dX0_endGroup_18 : decode cX0_endGroup 18 = .ok (.aload_n 0, 1) := by decide +kernel
theorem dX0_endGroup_19 : decode cX0_endGroup 19 = .ok (.dup, 1) := by decide +kernel
theorem dX0_endGroup_20 : decode cX0_endGroup 20 = .ok (.getfield 26, 3) := by decide +kernel
theorem dX0_endGroup_23 : decode cX0_endGroup 23 = .ok (.iconst 1, 1) := by decide +kernel
theorem dX0_endGroup_24 : decode cX0_endGroup 24 = .ok (.isub, 1) := by decide +kernel
theorem dX0_endGroup_25 : decode cX0_endGroup 25 = .ok (.putfield 26, 3) := by decide +kernel
theorem dX0_endGroup_28 : decode cX0_endGroup 28 = .ok (.aload_n 0, 1) := by decide +kernel
theorem dX0_endGroup_29 : decode cX0_endGroup 29 = .ok (.getfield 15, 3) := by decide +kernel
theorem dX0_endGroup_32 : decode cX0_endGroup 32 = .ok (.aload_n 0, 1) := by decide +kernel
theorem dX0_endGroup_33 : decode cX0_endGroup 33 = .ok (.getfield 26, 3) := by decide +kernel
theorem dX0_endGroup_36 : decode cX0_endGroup 36 = .ok (.sipush 256, 3) := by decide +kernel
theorem dX0_endGroup_39 : decode cX0_endGroup 39 = .ok (.imul, 1) := by decide +kernel
theorem dX0_endGroup_40 : decode cX0_endGroup 40 = .ok (.aload_n 0, 1) := by decide +kernel
theorem dX0_endGroup_41 : decode cX0_endGroup 41 = .ok (.getfield 9, 3) := by decide +kernel
theorem dX0_endGroup_44 : decode cX0_endGroup 44 = .ok (.iconst 0, 1) := by decide +kernel
theorem dX0_endGroup_45 : decode cX0_endGroup 45 = .ok (.sipush 256, 3) := by decide +kernel
theorem dX0_endGroup_48 : decode cX0_endGroup 48 = .ok (.invokestatic 30, 3) := by decide +kernel
theorem dX0_endGroup_51 : decode cX0_endGroup 51 = .ok (.iconst 1, 1) := by decide +kernel
theorem dX0_endGroup_52 : decode cX0_endGroup 52 = .ok (.ireturn, 1) := by decide +kernel
