theorem dX3_init_0 : decode cX3_init 0 = .ok (.aload_n 0, 1) := by decide +kernel
theorem dX3_init_1 : decode cX3_init 1 = .ok (.invokespecial 3, 3) := by decide +kernel
theorem dX3_init_4 : decode cX3_init 4 = .ok (.aload_n 0, 1) := by decide +kernel
theorem dX3_init_5 : decode cX3_init 5 = .ok (.sipush 6000, 3) := by decide +kernel
theorem dX3_init_8 : decode cX3_init 8 = .ok (.newarray .int, 2) := by decide +kernel
theorem dX3_init_10 : decode cX3_init 10 = .ok (.putfield 9, 3) := by decide +kernel
theorem dX3_init_13 : decode cX3_init 13 = .ok (.aload_n 0, 1) := by decide +kernel
theorem dX3_init_14 : decode cX3_init 14 = .ok (.sipush 150, 3) := by decide +kernel
theorem dX3_init_17 : decode cX3_init 17 = .ok (.newarray .int, 2) := by decide +kernel
theorem dX3_init_19 : decode cX3_init 19 = .ok (.putfield 15, 3) := by decide +kernel
theorem dX3_init_22 : decode cX3_init 22 = .ok (.aload_n 0, 1) := by decide +kernel
theorem dX3_init_23 : decode cX3_init 23 = .ok (.bipush 40, 2) := by decide +kernel
theorem dX3_init_25 : decode cX3_init 25 = .ok (.newarray .int, 2) := by decide +kernel
theorem dX3_init_27 : decode cX3_init 27 = .ok (.putfield 18, 3) := by decide +kernel
theorem dX3_init_30 : decode cX3_init 30 = .ok (.aload_n 0, 1) := by decide +kernel
theorem dX3_init_31 : decode cX3_init 31 = .ok (.getfield 9, 3) := by decide +kernel
theorem dX3_init_34 : decode cX3_init 34 = .ok (.iconst 0, 1) := by decide +kernel
theorem dX3_init_35 : decode cX3_init 35 = .ok (.bipush 112, 2) := by decide +kernel
theorem dX3_init_37 : decode cX3_init 37 = .ok (.iastore, 1) := by decide +kernel
theorem dX3_init_38 : decode cX3_init 38 = .ok (.aload_n 0, 1) := by decide +kernel
theorem dX3_init_39 : decode cX3_init 39 = .ok (.getfield 9, 3) := by decide +kernel
theorem dX3_init_42 : decode cX3_init 42 = .ok (.iconst 1, 1) := by decide +kernel
theorem dX3_init_43 : decode cX3_init 43 = .ok (.bipush 97, 2) := by decide +kernel
theorem dX3_init_45 : decode cX3_init 45 = .ok (.iastore, 1) := by decide +kernel
theorem dX3_init_46 : decode cX3_init 46 = .ok (.aload_n 0, 1) := by decide +kernel
theorem dX3_init_47 : decode cX3_init 47 = .ok (.getfield 9, 3) := by decide +kernel
theorem dX3_init_50 : decode cX3_init 50 = .ok (.iconst 2, 1) := by decide +kernel
theorem dX3_init_51 : decode cX3_init 51 = .ok (.bipush 114, 2) := by decide +kernel
theorem dX3_init_53 : decode cX3_init 53 = .ok (.iastore, 1) := by decide +kernel
theorem dX3_init_54 : decode cX3_init 54 = .ok (.aload_n 0, 1) := by decide +kernel
theorem dX3_init_55 : decode cX3_init 55 = .ok (.getfield 15, 3) := by decide +kernel
theorem dX3_init_58 : decode cX3_init 58 = .ok (.iconst 0, 1) := by decide +kernel
theorem dX3_init_59 : decode cX3_init 59 = .ok (.iconst 3, 1) := by decide +kernel
theorem dX3_init_60 : decode cX3_init 60 = .ok (.iastore, 1) := by decide +kernel
theorem dX3_init_61 : decode cX3_init 61 = .ok (.aload_n 0, 1) := by decide +kernel
theorem dX3_init_62 : decode cX3_init 62 = .ok (.iconst 1, 1) := by decide +kernel
theorem dX3_init_63 : decode cX3_init 63 = .ok (.putfield 21, 3) := by decide +kernel
theorem dX3_init_66 : decode cX3_init 66 = .ok (.return_, 1) := by decide +kernel
theorem dX3_has_0 : decode cX3_has 0 = .ok (.iload_n 1, 1) := by decide +kernel
theorem dX3_has_1 : decode cX3_has 1 = .ok (.ifCond .lt 24, 3) := by decide +kernel
theorem dX3_has_4 : decode cX3_has 4 = .ok (.iload_n 1, 1) := by decide +kernel
theorem dX3_has_5 : decode cX3_has 5 = .ok (.aload_n 0, 1) := by decide +kernel
theorem dX3_has_6 : decode cX3_has 6 = .ok (.getfield 21, 3) := by decide +kernel
theorem dX3_has_9 : decode cX3_has 9 = .ok (.if_icmp .ge 16, 3) := by decide +kernel
theorem dX3_has_12 : decode cX3_has 12 = .ok (.iload_n 1, 1) := by decide +kernel
theorem dX3_has_13 : decode cX3_has 13 = .ok (.aload_n 0, 1) := by decide +kernel
theorem dX3_has_14 : decode cX3_has 14 = .ok (.getfield 15, 3) := by decide +kernel
theorem dX3_has_17 : decode cX3_has 17 = .ok (.arraylength, 1) := by decide +kernel
theorem dX3_has_18 : decode cX3_has 18 = .ok (.if_icmp .ge 7, 3) := by decide +kernel
theorem dX3_has_21 : decode cX3_has 21 = .ok (.iconst 1, 1) := by decide +kernel
theorem dX3_has_22 : decode cX3_has 22 = .ok (.goto 4, 3) := by decide +kernel
theorem dX3_has_25 : decode cX3_has 25 = .ok (.iconst 0, 1) := by decide +kernel
theorem dX3_has_26 : decode cX3_has 26 = .ok (.ireturn, 1) := by decide +kernel
theorem dX3_sign_0 : decode cX3_sign 0 = .ok (.aload_n 0, 1) := by decide +kernel
theorem dX3_sign_1 : decode cX3_sign 1 = .ok (.iload_n 1, 1) := by decide +kernel
theorem dX3_sign_2 : decode cX3_sign 2 = .ok (.invokevirtual 25, 3) := by decide +kernel
theorem dX3_sign_5 : decode cX3_sign 5 = .ok (.ifCond .eq 17, 3) := by decide +kernel
theorem dX3_sign_8 : decode cX3_sign 8 = .ok (.iload_n 2, 1) := by decide +kernel
theorem dX3_sign_9 : decode cX3_sign 9 = .ok (.ifCond .lt 13, 3) := by decide +kernel
theorem dX3_sign_12 : decode cX3_sign 12 = .ok (.iload_n 2, 1) := by decide +kernel
theorem dX3_sign_13 : decode cX3_sign 13 = .ok (.aload_n 0, 1) := by decide +kernel
theorem dX3_sign_14 : decode cX3_sign 14 = .ok (.getfield 15, 3) := by decide +kernel
theorem dX3_sign_17 : decode cX3_sign 17 = .ok (.iload_n 1, 1) := by decide +kernel
theorem dX3_sign_18 : decode cX3_sign 18 = .ok (.iaload, 1) := by decide +kernel
theorem dX3_sign_19 : decode cX3_sign 19 = .ok (.if_icmp .lt 5, 3) := by decide +kernel
theorem dX3_sign_22 : decode cX3_sign 22 = .ok (.iconst (-1), 1) := by decide +kernel
theorem dX3_sign_23 : decode cX3_sign 23 = .ok (.ireturn, 1) := by decide +kernel
theorem dX3_sign_24 : decode cX3_sign 24 = .ok (.iload_n 1, 1) := by decide +kernel
theorem dX3_sign_25 : decode cX3_sign 25 = .ok (.bipush 40, 2) := by decide +kernel
theorem dX3_sign_27 : decode cX3_sign 27 = .ok (.imul, 1) := by decide +kernel
theorem dX3_sign_28 : decode cX3_sign 28 = .ok (.iload_n 2, 1) := by decide +kernel
theorem dX3_sign_29 : decode cX3_sign 29 = .ok (.iadd, 1) := by decide +kernel
theorem dX3_sign_30 : decode cX3_sign 30 = .ok (.istore_n 3, 1) := by decide +kernel
theorem dX3_sign_31 : decode cX3_sign 31 = .ok (.iload_n 3, 1) := by decide +kernel
theorem dX3_sign_32 : decode cX3_sign 32 = .ok (.aload_n 0, 1) := by decide +kernel
theorem dX3_sign_33 : decode cX3_sign 33 = .ok (.getfield 9, 3) := by decide +kernel
theorem dX3_sign_36 : decode cX3_sign 36 = .ok (.arraylength, 1) := by decide +kernel
theorem dX3_sign_37 : decode cX3_sign 37 = .ok (.if_icmp .ge 12, 3) := by decide +kernel
theorem dX3_sign_40 : decode cX3_sign 40 = .ok (.aload_n 0, 1) := by decide +kernel
theorem dX3_sign_41 : decode cX3_sign 41 = .ok (.getfield 9, 3) := by decide +kernel
theorem dX3_sign_44 : decode cX3_sign 44 = .ok (.iload_n 3, 1) := by decide +kernel
theorem dX3_sign_45 : decode cX3_sign 45 = .ok (.iaload, 1) := by decide +kernel
theorem dX3_sign_46 : decode cX3_sign 46 = .ok (.goto 4, 3) := by decide +kernel
theorem dX3_sign_49 : decode cX3_sign 49 = .ok (.iconst (-1), 1) := by decide +kernel
theorem dX3_sign_50 : decode cX3_sign 50 = .ok (.ireturn, 1) := by decide +kernel
theorem dX3_beginDraft_0 : decode cX3_beginDraft 0 = .ok (.aload_n 0, 1) := by decide +kernel
theorem dX3_beginDraft_1 : decode cX3_beginDraft 1 = .ok (.iconst 0, 1) := by decide +kernel
theorem dX3_beginDraft_2 : decode cX3_beginDraft 2 = .ok (.putfield 29, 3) := by decide +kernel
theorem dX3_beginDraft_5 : decode cX3_beginDraft 5 = .ok (.return_, 1) := by decide +kernel
theorem dX3_growDraft_0 : decode cX3_growDraft 0 = .ok (.aload_n 0, 1) := by decide +kernel
theorem dX3_growDraft_1 : decode cX3_growDraft 1 = .ok (.getfield 29, 3) := by decide +kernel
theorem dX3_growDraft_4 : decode cX3_growDraft 4 = .ok (.ifCond .lt 25, 3) := by decide +kernel
theorem dX3_growDraft_7 : decode cX3_growDraft 7 = .ok (.aload_n 0, 1) := by decide +kernel
theorem dX3_growDraft_8 : decode cX3_growDraft 8 = .ok (.getfield 29, 3) := by decide +kernel
theorem dX3_growDraft_11 : decode cX3_growDraft 11 = .ok (.aload_n 0, 1) := by decide +kernel
theorem dX3_growDraft_12 : decode cX3_growDraft 12 = .ok (.getfield 18, 3) := by decide +kernel
theorem dX3_growDraft_15 : decode cX3_growDraft 15 = .ok (.arraylength, 1) := by decide +kernel
theorem dX3_growDraft_16 : decode cX3_growDraft 16 = .ok (.if_icmp .ge 13, 3) := by decide +kernel
theorem dX3_growDraft_19 : decode cX3_growDraft 19 = .ok (.aload_n 0, 1) := by decide +kernel
theorem dX3_growDraft_20 : decode cX3_growDraft 20 = .ok (.getfield 18, 3) := by decide +kernel
theorem dX3_growDraft_23 : decode cX3_growDraft 23 = .ok (.aload_n 0, 1) := by decide +kernel
theorem dX3_growDraft_24 : decode cX3_growDraft 24 = .ok (.getfield 29, 3) := by decide +kernel
theorem dX3_growDraft_27 : decode cX3_growDraft 27 = .ok (.iload_n 1, 1) := by decide +kernel
theorem dX3_growDraft_28 : decode cX3_growDraft 28 = .ok (.iastore, 1) := by decide +kernel
theorem dX3_growDraft_29 : decode cX3_growDraft 29 = .ok (.aload_n 0, 1) := by decide +kernel
theorem dX3_growDraft_30 : decode cX3_growDraft 30 = .ok (.dup, 1) := by decide +kernel
theorem dX3_growDraft_31 : decode cX3_growDraft 31 = .ok (.getfield 29, 3) := by decide +kernel
theorem dX3_growDraft_34 : decode cX3_growDraft 34 = .ok (.iconst 1, 1) := by decide +kernel
theorem dX3_growDraft_35 : decode cX3_growDraft 35 = .ok (.iadd, 1) := by decide +kernel
theorem dX3_growDraft_36 : decode cX3_growDraft 36 = .ok (.putfield 29, 3) := by decide +kernel
theorem dX3_growDraft_39 : decode cX3_growDraft 39 = .ok (.return_, 1) := by decide +kernel
theorem dX3_draftIsLong_0 : decode cX3_draftIsLong 0 = .ok (.aload_n 0, 1) := by decide +kernel
theorem dX3_draftIsLong_1 : decode cX3_draftIsLong 1 = .ok (.getfield 29, 3) := by decide +kernel
theorem dX3_draftIsLong_4 : decode cX3_draftIsLong 4 = .ok (.bipush 40, 2) := by decide +kernel
theorem dX3_draftIsLong_6 : decode cX3_draftIsLong 6 = .ok (.if_icmp .le 7, 3) := by decide +kernel
theorem dX3_draftIsLong_9 : decode cX3_draftIsLong 9 = .ok (.iconst 1, 1) := by decide +kernel
theorem dX3_draftIsLong_10 : decode cX3_draftIsLong 10 = .ok (.goto 4, 3) := by decide +kernel
theorem dX3_draftIsLong_13 : decode cX3_draftIsLong 13 = .ok (.iconst 0, 1) := by decide +kernel
theorem dX3_draftIsLong_14 : decode cX3_draftIsLong 14 = .ok (.ireturn, 1) := by decide +kernel
theorem dX3_numberOfDraft_0 : decode cX3_numberOfDraft 0 = .ok (.iconst 0, 1) := by decide +kernel
theorem dX3_numberOfDraft_1 : decode cX3_numberOfDraft 1 = .ok (.istore_n 1, 1) := by decide +kernel
theorem dX3_numberOfDraft_2 : decode cX3_numberOfDraft 2 = .ok (.iload_n 1, 1) := by decide +kernel
theorem dX3_numberOfDraft_3 : decode cX3_numberOfDraft 3 = .ok (.aload_n 0, 1) := by decide +kernel
theorem dX3_numberOfDraft_4 : decode cX3_numberOfDraft 4 = .ok (.getfield 21, 3) := by decide +kernel
theorem dX3_numberOfDraft_7 : decode cX3_numberOfDraft 7 = .ok (.if_icmp .ge 19, 3) := by decide +kernel
theorem dX3_numberOfDraft_10 : decode cX3_numberOfDraft 10 = .ok (.aload_n 0, 1) := by decide +kernel
theorem dX3_numberOfDraft_11 : decode cX3_numberOfDraft 11 = .ok (.iload_n 1, 1) := by decide +kernel
theorem dX3_numberOfDraft_12 : decode cX3_numberOfDraft 12 = .ok (.invokevirtual 32, 3) := by decide +kernel
theorem dX3_numberOfDraft_15 : decode cX3_numberOfDraft 15 = .ok (.ifCond .eq 5, 3) := by decide +kernel
theorem dX3_numberOfDraft_18 : decode cX3_numberOfDraft 18 = .ok (.iload_n 1, 1) := by decide +kernel
theorem dX3_numberOfDraft_19 : decode cX3_numberOfDraft 19 = .ok (.ireturn, 1) := by decide +kernel
theorem dX3_numberOfDraft_20 : decode cX3_numberOfDraft 20 = .ok (.iinc 1 1, 3) := by decide +kernel
theorem dX3_numberOfDraft_23 : decode cX3_numberOfDraft 23 = .ok (.goto (-21), 3) := by decide +kernel
theorem dX3_numberOfDraft_26 : decode cX3_numberOfDraft 26 = .ok (.aload_n 0, 1) := by decide +kernel
theorem dX3_numberOfDraft_27 : decode cX3_numberOfDraft 27 = .ok (.getfield 21, 3) := by decide +kernel
theorem dX3_numberOfDraft_30 : decode cX3_numberOfDraft 30 = .ok (.ifCond .lt 15, 3) := by decide +kernel
theorem dX3_numberOfDraft_33 : decode cX3_numberOfDraft 33 = .ok (.aload_n 0, 1) := by decide +kernel
theorem dX3_numberOfDraft_34 : decode cX3_numberOfDraft 34 = .ok (.getfield 21, 3) := by decide +kernel
theorem dX3_numberOfDraft_37 : decode cX3_numberOfDraft 37 = .ok (.aload_n 0, 1) := by decide +kernel
theorem dX3_numberOfDraft_38 : decode cX3_numberOfDraft 38 = .ok (.getfield 15, 3) := by decide +kernel
theorem dX3_numberOfDraft_41 : decode cX3_numberOfDraft 41 = .ok (.arraylength, 1) := by decide +kernel
theorem dX3_numberOfDraft_42 : decode cX3_numberOfDraft 42 = .ok (.if_icmp .lt 5, 3) := by decide +kernel
theorem dX3_numberOfDraft_45 : decode cX3_numberOfDraft 45 = .ok (.iconst (-1), 1) := by decide +kernel
theorem dX3_numberOfDraft_46 : decode cX3_numberOfDraft 46 = .ok (.ireturn, 1) := by decide +kernel
theorem dX3_numberOfDraft_47 : decode cX3_numberOfDraft 47 = .ok (.aload_n 0, 1) := by decide +kernel
theorem dX3_numberOfDraft_48 : decode cX3_numberOfDraft 48 = .ok (.invokevirtual 35, 3) := by decide +kernel
theorem dX3_numberOfDraft_51 : decode cX3_numberOfDraft 51 = .ok (.istore_n 1, 1) := by decide +kernel
theorem dX3_numberOfDraft_52 : decode cX3_numberOfDraft 52 = .ok (.aload_n 0, 1) := by decide +kernel
theorem dX3_numberOfDraft_53 : decode cX3_numberOfDraft 53 = .ok (.getfield 18, 3) := by decide +kernel
theorem dX3_numberOfDraft_56 : decode cX3_numberOfDraft 56 = .ok (.iconst 0, 1) := by decide +kernel
theorem dX3_numberOfDraft_57 : decode cX3_numberOfDraft 57 = .ok (.aload_n 0, 1) := by decide +kernel
theorem dX3_numberOfDraft_58 : decode cX3_numberOfDraft 58 = .ok (.getfield 9, 3) := by decide +kernel
theorem dX3_numberOfDraft_61 : decode cX3_numberOfDraft 61 = .ok (.aload_n 0, 1) := by decide +kernel
theorem dX3_numberOfDraft_62 : decode cX3_numberOfDraft 62 = .ok (.getfield 21, 3) := by decide +kernel
theorem dX3_numberOfDraft_65 : decode cX3_numberOfDraft 65 = .ok (.bipush 40, 2) := by decide +kernel
theorem dX3_numberOfDraft_67 : decode cX3_numberOfDraft 67 = .ok (.imul, 1) := by decide +kernel
theorem dX3_numberOfDraft_68 : decode cX3_numberOfDraft 68 = .ok (.iload_n 1, 1) := by decide +kernel
theorem dX3_numberOfDraft_69 : decode cX3_numberOfDraft 69 = .ok (.invokestatic 39, 3) := by decide +kernel
theorem dX3_numberOfDraft_72 : decode cX3_numberOfDraft 72 = .ok (.aload_n 0, 1) := by decide +kernel
theorem dX3_numberOfDraft_73 : decode cX3_numberOfDraft 73 = .ok (.getfield 15, 3) := by decide +kernel
theorem dX3_numberOfDraft_76 : decode cX3_numberOfDraft 76 = .ok (.aload_n 0, 1) := by decide +kernel
theorem dX3_numberOfDraft_77 : decode cX3_numberOfDraft 77 = .ok (.getfield 21, 3) := by decide +kernel
theorem dX3_numberOfDraft_80 : decode cX3_numberOfDraft 80 = .ok (.iload_n 1, 1) := by decide +kernel
theorem dX3_numberOfDraft_81 : decode cX3_numberOfDraft 81 = .ok (.iastore, 1) := by decide +kernel
theorem dX3_numberOfDraft_82 : decode cX3_numberOfDraft 82 = .ok (.aload_n 0, 1) := by decide +kernel
theorem dX3_numberOfDraft_83 : decode cX3_numberOfDraft 83 = .ok (.dup, 1) := by decide +kernel
theorem dX3_numberOfDraft_84 : decode cX3_numberOfDraft 84 = .ok (.getfield 21, 3) := by decide +kernel
theorem dX3_numberOfDraft_87 : decode cX3_numberOfDraft 87 = .ok (.iconst 1, 1) := by decide +kernel
theorem dX3_numberOfDraft_88 : decode cX3_numberOfDraft 88 = .ok (.iadd, 1) := by decide +kernel
theorem dX3_numberOfDraft_89 : decode cX3_numberOfDraft 89 = .ok (.putfield 21, 3) := by decide +kernel
theorem dX3_numberOfDraft_92 : decode cX3_numberOfDraft 92 = .ok (.aload_n 0, 1) := by decide +kernel
theorem dX3_numberOfDraft_93 : decode cX3_numberOfDraft 93 = .ok (.getfield 21, 3) := by decide +kernel
theorem dX3_numberOfDraft_96 : decode cX3_numberOfDraft 96 = .ok (.iconst 1, 1) := by decide +kernel
theorem dX3_numberOfDraft_97 : decode cX3_numberOfDraft 97 = .ok (.isub, 1) := by decide +kernel
theorem dX3_numberOfDraft_98 : decode cX3_numberOfDraft 98 = .ok (.ireturn, 1) := by decide +kernel
theorem dX3_draftLength_0 : decode cX3_draftLength 0 = .ok (.aload_n 0, 1) := by decide +kernel
theorem dX3_draftLength_1 : decode cX3_draftLength 1 = .ok (.invokevirtual 45, 3) := by decide +kernel
theorem dX3_draftLength_4 : decode cX3_draftLength 4 = .ok (.ifCond .eq 8, 3) := by decide +kernel
theorem dX3_draftLength_7 : decode cX3_draftLength 7 = .ok (.bipush 40, 2) := by decide +kernel
theorem dX3_draftLength_9 : decode cX3_draftLength 9 = .ok (.goto 7, 3) := by decide +kernel
theorem dX3_draftLength_12 : decode cX3_draftLength 12 = .ok (.aload_n 0, 1) := by decide +kernel
theorem dX3_draftLength_13 : decode cX3_draftLength 13 = .ok (.getfield 29, 3) := by decide +kernel
theorem dX3_draftLength_16 : decode cX3_draftLength 16 = .ok (.ireturn, 1) := by decide +kernel
theorem dX3_isDraft_0 : decode cX3_isDraft 0 = .ok (.aload_n 0, 1) := by decide +kernel
theorem dX3_isDraft_1 : decode cX3_isDraft 1 = .ok (.iload_n 1, 1) := by decide +kernel
theorem dX3_isDraft_2 : decode cX3_isDraft 2 = .ok (.invokevirtual 25, 3) := by decide +kernel
theorem dX3_isDraft_5 : decode cX3_isDraft 5 = .ok (.ifCond .eq 16, 3) := by decide +kernel
theorem dX3_isDraft_8 : decode cX3_isDraft 8 = .ok (.aload_n 0, 1) := by decide +kernel
theorem dX3_isDraft_9 : decode cX3_isDraft 9 = .ok (.getfield 15, 3) := by decide +kernel
theorem dX3_isDraft_12 : decode cX3_isDraft 12 = .ok (.iload_n 1, 1) := by decide +kernel
theorem dX3_isDraft_13 : decode cX3_isDraft 13 = .ok (.iaload, 1) := by decide +kernel
theorem dX3_isDraft_14 : decode cX3_isDraft 14 = .ok (.aload_n 0, 1) := by decide +kernel
theorem dX3_isDraft_15 : decode cX3_isDraft 15 = .ok (.invokevirtual 35, 3) := by decide +kernel
theorem dX3_isDraft_18 : decode cX3_isDraft 18 = .ok (.if_icmp .eq 5, 3) := by decide +kernel
theorem dX3_isDraft_21 : decode cX3_isDraft 21 = .ok (.iconst 0, 1) := by decide +kernel
theorem dX3_isDraft_22 : decode cX3_isDraft 22 = .ok (.ireturn, 1) := by decide +kernel
theorem dX3_isDraft_23 : decode cX3_isDraft 23 = .ok (.iconst 0, 1) := by decide +kernel
theorem dX3_isDraft_24 : decode cX3_isDraft 24 = .ok (.istore_n 2, 1) := by decide +kernel
theorem dX3_isDraft_25 : decode cX3_isDraft 25 = .ok (.iload_n 2, 1) := by decide +kernel
theorem dX3_isDraft_26 : decode cX3_isDraft 26 = .ok (.aload_n 0, 1) := by decide +kernel
theorem dX3_isDraft_27 : decode cX3_isDraft 27 = .ok (.getfield 15, 3) := by decide +kernel
theorem dX3_isDraft_30 : decode cX3_isDraft 30 = .ok (.iload_n 1, 1) := by decide +kernel
theorem dX3_isDraft_31 : decode cX3_isDraft 31 = .ok (.iaload, 1) := by decide +kernel
theorem dX3_isDraft_32 : decode cX3_isDraft 32 = .ok (.if_icmp .ge 35, 3) := by decide +kernel
theorem dX3_isDraft_35 : decode cX3_isDraft 35 = .ok (.iload_n 2, 1) := by decide +kernel
theorem dX3_isDraft_36 : decode cX3_isDraft 36 = .ok (.aload_n 0, 1) := by decide +kernel
theorem dX3_isDraft_37 : decode cX3_isDraft 37 = .ok (.getfield 18, 3) := by decide +kernel
theorem dX3_isDraft_40 : decode cX3_isDraft 40 = .ok (.arraylength, 1) := by decide +kernel
theorem dX3_isDraft_41 : decode cX3_isDraft 41 = .ok (.if_icmp .ge 26, 3) := by decide +kernel
theorem dX3_isDraft_44 : decode cX3_isDraft 44 = .ok (.aload_n 0, 1) := by decide +kernel
theorem dX3_isDraft_45 : decode cX3_isDraft 45 = .ok (.iload_n 1, 1) := by decide +kernel
theorem dX3_isDraft_46 : decode cX3_isDraft 46 = .ok (.iload_n 2, 1) := by decide +kernel
theorem dX3_isDraft_47 : decode cX3_isDraft 47 = .ok (.invokevirtual 49, 3) := by decide +kernel
theorem dX3_isDraft_50 : decode cX3_isDraft 50 = .ok (.aload_n 0, 1) := by decide +kernel
theorem dX3_isDraft_51 : decode cX3_isDraft 51 = .ok (.getfield 18, 3) := by decide +kernel
theorem dX3_isDraft_54 : decode cX3_isDraft 54 = .ok (.iload_n 2, 1) := by decide +kernel
theorem dX3_isDraft_55 : decode cX3_isDraft 55 = .ok (.iaload, 1) := by decide +kernel
theorem dX3_isDraft_56 : decode cX3_isDraft 56 = .ok (.if_icmp .eq 5, 3) := by decide +kernel
theorem dX3_isDraft_59 : decode cX3_isDraft 59 = .ok (.iconst 0, 1) := by decide +kernel
theorem dX3_isDraft_60 : decode cX3_isDraft 60 = .ok (.ireturn, 1) := by decide +kernel
theorem dX3_isDraft_61 : decode cX3_isDraft 61 = .ok (.iinc 2 1, 3) := by decide +kernel
theorem dX3_isDraft_64 : decode cX3_isDraft 64 = .ok (.goto (-39), 3) := by decide +kernel
theorem dX3_isDraft_67 : decode cX3_isDraft 67 = .ok (.iconst 1, 1) := by decide +kernel
theorem dX3_isDraft_68 : decode cX3_isDraft 68 = .ok (.ireturn, 1) := by decide +kernel
theorem dX3_allDiffer_0 : decode cX3_allDiffer 0 = .ok (.iconst 0, 1) := by decide +kernel
theorem dX3_allDiffer_1 : decode cX3_allDiffer 1 = .ok (.istore_n 1, 1) := by decide +kernel
theorem dX3_allDiffer_2 : decode cX3_allDiffer 2 = .ok (.iload_n 1, 1) := by decide +kernel
theorem dX3_allDiffer_3 : decode cX3_allDiffer 3 = .ok (.aload_n 0, 1) := by decide +kernel
theorem dX3_allDiffer_4 : decode cX3_allDiffer 4 = .ok (.getfield 21, 3) := by decide +kernel
theorem dX3_allDiffer_7 : decode cX3_allDiffer 7 = .ok (.if_icmp .ge 33, 3) := by decide +kernel
theorem dX3_allDiffer_10 : decode cX3_allDiffer 10 = .ok (.iconst 0, 1) := by decide +kernel
theorem dX3_allDiffer_11 : decode cX3_allDiffer 11 = .ok (.istore_n 2, 1) := by decide +kernel
theorem dX3_allDiffer_12 : decode cX3_allDiffer 12 = .ok (.iload_n 2, 1) := by decide +kernel
theorem dX3_allDiffer_13 : decode cX3_allDiffer 13 = .ok (.iload_n 1, 1) := by decide +kernel
theorem dX3_allDiffer_14 : decode cX3_allDiffer 14 = .ok (.if_icmp .ge 20, 3) := by decide +kernel
theorem dX3_allDiffer_17 : decode cX3_allDiffer 17 = .ok (.aload_n 0, 1) := by decide +kernel
theorem dX3_allDiffer_18 : decode cX3_allDiffer 18 = .ok (.iload_n 1, 1) := by decide +kernel
theorem dX3_allDiffer_19 : decode cX3_allDiffer 19 = .ok (.iload_n 2, 1) := by decide +kernel
theorem dX3_allDiffer_20 : decode cX3_allDiffer 20 = .ok (.invokevirtual 53, 3) := by decide +kernel
theorem dX3_allDiffer_23 : decode cX3_allDiffer 23 = .ok (.ifCond .eq 5, 3) := by decide +kernel
theorem dX3_allDiffer_26 : decode cX3_allDiffer 26 = .ok (.iconst 0, 1) := by decide +kernel
theorem dX3_allDiffer_27 : decode cX3_allDiffer 27 = .ok (.ireturn, 1) := by decide +kernel
theorem dX3_allDiffer_28 : decode cX3_allDiffer 28 = .ok (.iinc 2 1, 3) := by decide +kernel
theorem dX3_allDiffer_31 : decode cX3_allDiffer 31 = .ok (.goto (-19), 3) := by decide +kernel
theorem dX3_allDiffer_34 : decode cX3_allDiffer 34 = .ok (.iinc 1 1, 3) := by decide +kernel
theorem dX3_allDiffer_37 : decode cX3_allDiffer 37 = .ok (.goto (-35), 3) := by decide +kernel
theorem dX3_allDiffer_40 : decode cX3_allDiffer 40 = .ok (.iconst 1, 1) := by decide +kernel
theorem dX3_allDiffer_41 : decode cX3_allDiffer 41 = .ok (.ireturn, 1) := by decide +kernel
theorem dX3_areSame_0 : decode cX3_areSame 0 = .ok (.iconst 0, 1) := by decide +kernel
theorem dX3_areSame_1 : decode cX3_areSame 1 = .ok (.istore_n 3, 1) := by decide +kernel
theorem dX3_areSame_2 : decode cX3_areSame 2 = .ok (.iload_n 3, 1) := by decide +kernel
theorem dX3_areSame_3 : decode cX3_areSame 3 = .ok (.bipush 40, 2) := by decide +kernel
theorem dX3_areSame_5 : decode cX3_areSame 5 = .ok (.if_icmp .gt 26, 3) := by decide +kernel
theorem dX3_areSame_8 : decode cX3_areSame 8 = .ok (.aload_n 0, 1) := by decide +kernel
theorem dX3_areSame_9 : decode cX3_areSame 9 = .ok (.iload_n 1, 1) := by decide +kernel
theorem dX3_areSame_10 : decode cX3_areSame 10 = .ok (.iload_n 3, 1) := by decide +kernel
theorem dX3_areSame_11 : decode cX3_areSame 11 = .ok (.invokevirtual 49, 3) := by decide +kernel
theorem dX3_areSame_14 : decode cX3_areSame 14 = .ok (.aload_n 0, 1) := by decide +kernel
theorem dX3_areSame_15 : decode cX3_areSame 15 = .ok (.iload_n 2, 1) := by decide +kernel
theorem dX3_areSame_16 : decode cX3_areSame 16 = .ok (.iload_n 3, 1) := by decide +kernel
theorem dX3_areSame_17 : decode cX3_areSame 17 = .ok (.invokevirtual 49, 3) := by decide +kernel
theorem dX3_areSame_20 : decode cX3_areSame 20 = .ok (.if_icmp .eq 5, 3) := by decide +kernel
theorem dX3_areSame_23 : decode cX3_areSame 23 = .ok (.iconst 0, 1) := by decide +kernel
theorem dX3_areSame_24 : decode cX3_areSame 24 = .ok (.ireturn, 1) := by decide +kernel
theorem dX3_areSame_25 : decode cX3_areSame 25 = .ok (.iinc 3 1, 3) := by decide +kernel
theorem dX3_areSame_28 : decode cX3_areSame 28 = .ok (.goto (-26), 3) := by decide +kernel
theorem dX3_areSame_31 : decode cX3_areSame 31 = .ok (.iconst 1, 1) := by decide +kernel
theorem dX3_areSame_32 : decode cX3_areSame 32 = .ok (.ireturn, 1) := by decide +kernel
