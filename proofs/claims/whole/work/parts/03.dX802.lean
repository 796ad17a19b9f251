theorem dX8_told_81 : decode cX8_told 81 = .ok (.ireturn, 1) := by decide +kernel
theorem dX8_told_82 : decode cX8_told 82 = .ok (.bipush (-2), 2) := by decide +kernel
theorem dX8_told_84 : decode cX8_told 84 = .ok (.ireturn, 1) := by decide +kernel
theorem dX8_sureOf_0 : decode cX8_sureOf 0 = .ok (.aload_n 0, 1) := by decide +kernel
theorem dX8_sureOf_1 : decode cX8_sureOf 1 = .ok (.getfield 49, 3) := by decide +kernel
theorem dX8_sureOf_4 : decode cX8_sureOf 4 = .ok (.getfield 194, 3) := by decide +kernel
theorem dX8_sureOf_7 : decode cX8_sureOf 7 = .ok (.iload_n 1, 1) := by decide +kernel
theorem dX8_sureOf_8 : decode cX8_sureOf 8 = .ok (.aaload, 1) := by decide +kernel
theorem dX8_sureOf_9 : decode cX8_sureOf 9 = .ok (.aload_n 0, 1) := by decide +kernel
theorem dX8_sureOf_10 : decode cX8_sureOf 10 = .ok (.getfield 49, 3) := by decide +kernel
theorem dX8_sureOf_13 : decode cX8_sureOf 13 = .ok (.iload_n 1, 1) := by decide +kernel
theorem dX8_sureOf_14 : decode cX8_sureOf 14 = .ok (.invokevirtual 168, 3) := by decide +kernel
theorem dX8_sureOf_17 : decode cX8_sureOf 17 = .ok (.iaload, 1) := by decide +kernel
theorem dX8_sureOf_18 : decode cX8_sureOf 18 = .ok (.sipush 1000, 3) := by decide +kernel
theorem dX8_sureOf_21 : decode cX8_sureOf 21 = .ok (.idiv, 1) := by decide +kernel
theorem dX8_sureOf_22 : decode cX8_sureOf 22 = .ok (.ireturn, 1) := by decide +kernel
theorem dX8_isOpen_0 : decode cX8_isOpen 0 = .ok (.aload_n 0, 1) := by decide +kernel
theorem dX8_isOpen_1 : decode cX8_isOpen 1 = .ok (.getfield 26, 3) := by decide +kernel
theorem dX8_isOpen_4 : decode cX8_isOpen 4 = .ok (.getfield 154, 3) := by decide +kernel
theorem dX8_isOpen_7 : decode cX8_isOpen 7 = .ok (.iload_n 1, 1) := by decide +kernel
theorem dX8_isOpen_8 : decode cX8_isOpen 8 = .ok (.iaload, 1) := by decide +kernel
theorem dX8_isOpen_9 : decode cX8_isOpen 9 = .ok (.istore_n 2, 1) := by decide +kernel
theorem dX8_isOpen_10 : decode cX8_isOpen 10 = .ok (.iconst 0, 1) := by decide +kernel
theorem dX8_isOpen_11 : decode cX8_isOpen 11 = .ok (.istore_n 3, 1) := by decide +kernel
theorem dX8_isOpen_12 : decode cX8_isOpen 12 = .ok (.iload_n 3, 1) := by decide +kernel
theorem dX8_isOpen_13 : decode cX8_isOpen 13 = .ok (.aload_n 0, 1) := by decide +kernel
theorem dX8_isOpen_14 : decode cX8_isOpen 14 = .ok (.getfield 19, 3) := by decide +kernel
theorem dX8_isOpen_17 : decode cX8_isOpen 17 = .ok (.getfield 103, 3) := by decide +kernel
theorem dX8_isOpen_20 : decode cX8_isOpen 20 = .ok (.if_icmp .ge 72, 3) := by decide +kernel
theorem dX8_isOpen_23 : decode cX8_isOpen 23 = .ok (.aload_n 0, 1) := by decide +kernel
theorem dX8_isOpen_24 : decode cX8_isOpen 24 = .ok (.getfield 19, 3) := by decide +kernel
theorem dX8_isOpen_27 : decode cX8_isOpen 27 = .ok (.getfield 114, 3) := by decide +kernel
theorem dX8_isOpen_30 : decode cX8_isOpen 30 = .ok (.iload_n 2, 1) := by decide +kernel
theorem dX8_isOpen_31 : decode cX8_isOpen 31 = .ok (.iaload, 1) := by decide +kernel
theorem dX8_isOpen_32 : decode cX8_isOpen 32 = .ok (.iload_n 3, 1) := by decide +kernel
theorem dX8_isOpen_33 : decode cX8_isOpen 33 = .ok (.ishr, 1) := by decide +kernel
theorem dX8_isOpen_34 : decode cX8_isOpen 34 = .ok (.iconst 1, 1) := by decide +kernel
theorem dX8_isOpen_35 : decode cX8_isOpen 35 = .ok (.iand, 1) := by decide +kernel
theorem dX8_isOpen_36 : decode cX8_isOpen 36 = .ok (.iconst 1, 1) := by decide +kernel
theorem dX8_isOpen_37 : decode cX8_isOpen 37 = .ok (.if_icmp .ne 49, 3) := by decide +kernel
theorem dX8_isOpen_40 : decode cX8_isOpen 40 = .ok (.aload_n 0, 1) := by decide +kernel
theorem dX8_isOpen_41 : decode cX8_isOpen 41 = .ok (.getfield 26, 3) := by decide +kernel
theorem dX8_isOpen_44 : decode cX8_isOpen 44 = .ok (.iload_n 3, 1) := by decide +kernel
theorem dX8_isOpen_45 : decode cX8_isOpen 45 = .ok (.aload_n 0, 1) := by decide +kernel
theorem dX8_isOpen_46 : decode cX8_isOpen 46 = .ok (.getfield 26, 3) := by decide +kernel
theorem dX8_isOpen_49 : decode cX8_isOpen 49 = .ok (.getfield 157, 3) := by decide +kernel
theorem dX8_isOpen_52 : decode cX8_isOpen 52 = .ok (.iload_n 1, 1) := by decide +kernel
theorem dX8_isOpen_53 : decode cX8_isOpen 53 = .ok (.iaload, 1) := by decide +kernel
theorem dX8_isOpen_54 : decode cX8_isOpen 54 = .ok (.invokevirtual 120, 3) := by decide +kernel
theorem dX8_isOpen_57 : decode cX8_isOpen 57 = .ok (.istore 4, 2) := by decide +kernel
theorem dX8_isOpen_59 : decode cX8_isOpen 59 = .ok (.iload 4, 2) := by decide +kernel
theorem dX8_isOpen_61 : decode cX8_isOpen 61 = .ok (.bipush (-6), 2) := by decide +kernel
theorem dX8_isOpen_63 : decode cX8_isOpen 63 = .ok (.if_icmp .eq 21, 3) := by decide +kernel
theorem dX8_isOpen_66 : decode cX8_isOpen 66 = .ok (.aload_n 0, 1) := by decide +kernel
theorem dX8_isOpen_67 : decode cX8_isOpen 67 = .ok (.iload 4, 2) := by decide +kernel
theorem dX8_isOpen_69 : decode cX8_isOpen 69 = .ok (.invokevirtual 171, 3) := by decide +kernel
theorem dX8_isOpen_72 : decode cX8_isOpen 72 = .ok (.aload_n 0, 1) := by decide +kernel
theorem dX8_isOpen_73 : decode cX8_isOpen 73 = .ok (.getfield 19, 3) := by decide +kernel
theorem dX8_isOpen_76 : decode cX8_isOpen 76 = .ok (.getfield 117, 3) := by decide +kernel
theorem dX8_isOpen_79 : decode cX8_isOpen 79 = .ok (.iload_n 2, 1) := by decide +kernel
theorem dX8_isOpen_80 : decode cX8_isOpen 80 = .ok (.iaload, 1) := by decide +kernel
theorem dX8_isOpen_81 : decode cX8_isOpen 81 = .ok (.if_icmp .ge 5, 3) := by decide +kernel
theorem dX8_isOpen_84 : decode cX8_isOpen 84 = .ok (.iconst 0, 1) := by decide +kernel
theorem dX8_isOpen_85 : decode cX8_isOpen 85 = .ok (.ireturn, 1) := by decide +kernel
theorem dX8_isOpen_86 : decode cX8_isOpen 86 = .ok (.iinc 3 1, 3) := by decide +kernel
theorem dX8_isOpen_89 : decode cX8_isOpen 89 = .ok (.goto (-77), 3) := by decide +kernel
theorem dX8_isOpen_92 : decode cX8_isOpen 92 = .ok (.iconst 1, 1) := by decide +kernel
theorem dX8_isOpen_93 : decode cX8_isOpen 93 = .ok (.ireturn, 1) := by decide +kernel
theorem dX8_openItems_0 : decode cX8_openItems 0 = .ok (.iconst 0, 1) := by decide +kernel
theorem dX8_openItems_1 : decode cX8_openItems 1 = .ok (.istore_n 1, 1) := by decide +kernel
theorem dX8_openItems_2 : decode cX8_openItems 2 = .ok (.iconst 0, 1) := by decide +kernel
theorem dX8_openItems_3 : decode cX8_openItems 3 = .ok (.istore_n 2, 1) := by decide +kernel
theorem dX8_openItems_4 : decode cX8_openItems 4 = .ok (.iload_n 2, 1) := by decide +kernel
theorem dX8_openItems_5 : decode cX8_openItems 5 = .ok (.aload_n 0, 1) := by decide +kernel
theorem dX8_openItems_6 : decode cX8_openItems 6 = .ok (.getfield 26, 3) := by decide +kernel
theorem dX8_openItems_9 : decode cX8_openItems 9 = .ok (.getfield 101, 3) := by decide +kernel
theorem dX8_openItems_12 : decode cX8_openItems 12 = .ok (.if_icmp .ge 23, 3) := by decide +kernel
theorem dX8_openItems_15 : decode cX8_openItems 15 = .ok (.aload_n 0, 1) := by decide +kernel
theorem dX8_openItems_16 : decode cX8_openItems 16 = .ok (.iload_n 2, 1) := by decide +kernel
theorem dX8_openItems_17 : decode cX8_openItems 17 = .ok (.invokevirtual 161, 3) := by decide +kernel
theorem dX8_openItems_20 : decode cX8_openItems 20 = .ok (.ifCond .eq 9, 3) := by decide +kernel
theorem dX8_openItems_23 : decode cX8_openItems 23 = .ok (.iload_n 1, 1) := by decide +kernel
theorem dX8_openItems_24 : decode cX8_openItems 24 = .ok (.iconst 1, 1) := by decide +kernel
theorem dX8_openItems_25 : decode cX8_openItems 25 = .ok (.iload_n 2, 1) := by decide +kernel
theorem dX8_openItems_26 : decode cX8_openItems 26 = .ok (.ishl, 1) := by decide +kernel
theorem dX8_openItems_27 : decode cX8_openItems 27 = .ok (.ior, 1) := by decide +kernel
theorem dX8_openItems_28 : decode cX8_openItems 28 = .ok (.istore_n 1, 1) := by decide +kernel
theorem dX8_openItems_29 : decode cX8_openItems 29 = .ok (.iinc 2 1, 3) := by decide +kernel
theorem dX8_openItems_32 : decode cX8_openItems 32 = .ok (.goto (-28), 3) := by decide +kernel
theorem dX8_openItems_35 : decode cX8_openItems 35 = .ok (.iload_n 1, 1) := by decide +kernel
theorem dX8_openItems_36 : decode cX8_openItems 36 = .ok (.ireturn, 1) := by decide +kernel
theorem dX8_seekHelp_0 : decode cX8_seekHelp 0 = .ok (.aload_n 0, 1) := by decide +kernel
theorem dX8_seekHelp_1 : decode cX8_seekHelp 1 = .ok (.bipush (-6), 2) := by decide +kernel
theorem dX8_seekHelp_3 : decode cX8_seekHelp 3 = .ok (.putfield 74, 3) := by decide +kernel
theorem dX8_seekHelp_6 : decode cX8_seekHelp 6 = .ok (.aload_n 0, 1) := by decide +kernel
theorem dX8_seekHelp_7 : decode cX8_seekHelp 7 = .ok (.bipush (-6), 2) := by decide +kernel
theorem dX8_seekHelp_9 : decode cX8_seekHelp 9 = .ok (.putfield 77, 3) := by decide +kernel
theorem dX8_seekHelp_12 : decode cX8_seekHelp 12 = .ok (.aload_n 0, 1) := by decide +kernel
theorem dX8_seekHelp_13 : decode cX8_seekHelp 13 = .ok (.bipush (-6), 2) := by decide +kernel
theorem dX8_seekHelp_15 : decode cX8_seekHelp 15 = .ok (.putfield 80, 3) := by decide +kernel
theorem dX8_seekHelp_18 : decode cX8_seekHelp 18 = .ok (.iconst 0, 1) := by decide +kernel
theorem dX8_seekHelp_19 : decode cX8_seekHelp 19 = .ok (.istore_n 1, 1) := by decide +kernel
theorem dX8_seekHelp_20 : decode cX8_seekHelp 20 = .ok (.iload_n 1, 1) := by decide +kernel
theorem dX8_seekHelp_21 : decode cX8_seekHelp 21 = .ok (.aload_n 0, 1) := by decide +kernel
theorem dX8_seekHelp_22 : decode cX8_seekHelp 22 = .ok (.getfield 26, 3) := by decide +kernel
theorem dX8_seekHelp_25 : decode cX8_seekHelp 25 = .ok (.getfield 101, 3) := by decide +kernel
theorem dX8_seekHelp_28 : decode cX8_seekHelp 28 = .ok (.if_icmp .ge 33, 3) := by decide +kernel
theorem dX8_seekHelp_31 : decode cX8_seekHelp 31 = .ok (.aload_n 0, 1) := by decide +kernel
theorem dX8_seekHelp_32 : decode cX8_seekHelp 32 = .ok (.getfield 26, 3) := by decide +kernel
theorem dX8_seekHelp_35 : decode cX8_seekHelp 35 = .ok (.iload_n 1, 1) := by decide +kernel
theorem dX8_seekHelp_36 : decode cX8_seekHelp 36 = .ok (.invokevirtual 138, 3) := by decide +kernel
theorem dX8_seekHelp_39 : decode cX8_seekHelp 39 = .ok (.ifCond .eq 16, 3) := by decide +kernel
theorem dX8_seekHelp_42 : decode cX8_seekHelp 42 = .ok (.aload_n 0, 1) := by decide +kernel
theorem dX8_seekHelp_43 : decode cX8_seekHelp 43 = .ok (.iload_n 1, 1) := by decide +kernel
theorem dX8_seekHelp_44 : decode cX8_seekHelp 44 = .ok (.invokevirtual 161, 3) := by decide +kernel
theorem dX8_seekHelp_47 : decode cX8_seekHelp 47 = .ok (.ifCond .eq 8, 3) := by decide +kernel
theorem dX8_seekHelp_50 : decode cX8_seekHelp 50 = .ok (.aload_n 0, 1) := by decide +kernel
theorem dX8_seekHelp_51 : decode cX8_seekHelp 51 = .ok (.iload_n 1, 1) := by decide +kernel
theorem dX8_seekHelp_52 : decode cX8_seekHelp 52 = .ok (.invokevirtual 297, 3) := by decide +kernel
theorem dX8_seekHelp_55 : decode cX8_seekHelp 55 = .ok (.iinc 1 1, 3) := by decide +kernel
theorem dX8_seekHelp_58 : decode cX8_seekHelp 58 = .ok (.goto (-38), 3) := by decide +kernel
theorem dX8_seekHelp_61 : decode cX8_seekHelp 61 = .ok (.return_, 1) := by decide +kernel
theorem dX8_seekHandFor_0 : decode cX8_seekHandFor 0 = .ok (.iconst 0, 1) := by decide +kernel
theorem dX8_seekHandFor_1 : decode cX8_seekHandFor 1 = .ok (.istore_n 2, 1) := by decide +kernel
theorem dX8_seekHandFor_2 : decode cX8_seekHandFor 2 = .ok (.iload_n 2, 1) := by decide +kernel
theorem dX8_seekHandFor_3 : decode cX8_seekHandFor 3 = .ok (.aload_n 0, 1) := by decide +kernel
theorem dX8_seekHandFor_4 : decode cX8_seekHandFor 4 = .ok (.getfield 33, 3) := by decide +kernel
theorem dX8_seekHandFor_7 : decode cX8_seekHandFor 7 = .ok (.getfield 102, 3) := by decide +kernel
theorem dX8_seekHandFor_10 : decode cX8_seekHandFor 10 = .ok (.if_icmp .ge 74, 3) := by decide +kernel
theorem dX8_seekHandFor_13 : decode cX8_seekHandFor 13 = .ok (.aload_n 0, 1) := by decide +kernel
theorem dX8_seekHandFor_14 : decode cX8_seekHandFor 14 = .ok (.getfield 33, 3) := by decide +kernel
theorem dX8_seekHandFor_17 : decode cX8_seekHandFor 17 = .ok (.getfield 177, 3) := by decide +kernel
theorem dX8_seekHandFor_20 : decode cX8_seekHandFor 20 = .ok (.iload_n 2, 1) := by decide +kernel
theorem dX8_seekHandFor_21 : decode cX8_seekHandFor 21 = .ok (.baload, 1) := by decide +kernel
theorem dX8_seekHandFor_22 : decode cX8_seekHandFor 22 = .ok (.ifCond .ne 56, 3) := by decide +kernel
theorem dX8_seekHandFor_25 : decode cX8_seekHandFor 25 = .ok (.aload_n 0, 1) := by decide +kernel
theorem dX8_seekHandFor_26 : decode cX8_seekHandFor 26 = .ok (.getfield 33, 3) := by decide +kernel
theorem dX8_seekHandFor_29 : decode cX8_seekHandFor 29 = .ok (.getfield 181, 3) := by decide +kernel
theorem dX8_seekHandFor_32 : decode cX8_seekHandFor 32 = .ok (.iload_n 2, 1) := by decide +kernel
theorem dX8_seekHandFor_33 : decode cX8_seekHandFor 33 = .ok (.aaload, 1) := by decide +kernel
theorem dX8_seekHandFor_34 : decode cX8_seekHandFor 34 = .ok (.iload_n 1, 1) := by decide +kernel
theorem dX8_seekHandFor_35 : decode cX8_seekHandFor 35 = .ok (.iaload, 1) := by decide +kernel
theorem dX8_seekHandFor_36 : decode cX8_seekHandFor 36 = .ok (.bipush (-6), 2) := by decide +kernel
theorem dX8_seekHandFor_38 : decode cX8_seekHandFor 38 = .ok (.if_icmp .ne 40, 3) := by decide +kernel
theorem dX8_seekHandFor_41 : decode cX8_seekHandFor 41 = .ok (.aload_n 0, 1) := by decide +kernel
theorem dX8_seekHandFor_42 : decode cX8_seekHandFor 42 = .ok (.getfield 49, 3) := by decide +kernel
theorem dX8_seekHandFor_45 : decode cX8_seekHandFor 45 = .ok (.iload_n 1, 1) := by decide +kernel
theorem dX8_seekHandFor_46 : decode cX8_seekHandFor 46 = .ok (.iload_n 2, 1) := by decide +kernel
theorem dX8_seekHandFor_47 : decode cX8_seekHandFor 47 = .ok (.invokevirtual 300, 3) := by decide +kernel
theorem dX8_seekHandFor_50 : decode cX8_seekHandFor 50 = .ok (.istore_n 3, 1) := by decide +kernel
theorem dX8_seekHandFor_51 : decode cX8_seekHandFor 51 = .ok (.iload_n 3, 1) := by decide +kernel
theorem dX8_seekHandFor_52 : decode cX8_seekHandFor 52 = .ok (.ifCond .le 26, 3) := by decide +kernel
theorem dX8_seekHandFor_55 : decode cX8_seekHandFor 55 = .ok (.iload_n 3, 1) := by decide +kernel
theorem dX8_seekHandFor_56 : decode cX8_seekHandFor 56 = .ok (.aload_n 0, 1) := by decide +kernel
theorem dX8_seekHandFor_57 : decode cX8_seekHandFor 57 = .ok (.getfield 80, 3) := by decide +kernel
theorem dX8_seekHandFor_60 : decode cX8_seekHandFor 60 = .ok (.if_icmp .le 18, 3) := by decide +kernel
theorem dX8_seekHandFor_63 : decode cX8_seekHandFor 63 = .ok (.aload_n 0, 1) := by decide +kernel
theorem dX8_seekHandFor_64 : decode cX8_seekHandFor 64 = .ok (.iload_n 1, 1) := by decide +kernel
theorem dX8_seekHandFor_65 : decode cX8_seekHandFor 65 = .ok (.putfield 74, 3) := by decide +kernel
theorem dX8_seekHandFor_68 : decode cX8_seekHandFor 68 = .ok (.aload_n 0, 1) := by decide +kernel
theorem dX8_seekHandFor_69 : decode cX8_seekHandFor 69 = .ok (.iload_n 2, 1) := by decide +kernel
theorem dX8_seekHandFor_70 : decode cX8_seekHandFor 70 = .ok (.putfield 77, 3) := by decide +kernel
theorem dX8_seekHandFor_73 : decode cX8_seekHandFor 73 = .ok (.aload_n 0, 1) := by decide +kernel
theorem dX8_seekHandFor_74 : decode cX8_seekHandFor 74 = .ok (.iload_n 3, 1) := by decide +kernel
theorem dX8_seekHandFor_75 : decode cX8_seekHandFor 75 = .ok (.putfield 80, 3) := by decide +kernel
theorem dX8_seekHandFor_78 : decode cX8_seekHandFor 78 = .ok (.iinc 2 1, 3) := by decide +kernel
theorem dX8_seekHandFor_81 : decode cX8_seekHandFor 81 = .ok (.goto (-79), 3) := by decide +kernel
theorem dX8_seekHandFor_84 : decode cX8_seekHandFor 84 = .ok (.return_, 1) := by decide +kernel
theorem dX8_isToKnown_0 : decode cX8_isToKnown 0 = .ok (.aload_n 0, 1) := by decide +kernel
theorem dX8_isToKnown_1 : decode cX8_isToKnown 1 = .ok (.getfield 33, 3) := by decide +kernel
theorem dX8_isToKnown_4 : decode cX8_isToKnown 4 = .ok (.iload_n 1, 1) := by decide +kernel
theorem dX8_isToKnown_5 : decode cX8_isToKnown 5 = .ok (.iload_n 2, 1) := by decide +kernel
theorem dX8_isToKnown_6 : decode cX8_isToKnown 6 = .ok (.invokevirtual 241, 3) := by decide +kernel
theorem dX8_isToKnown_9 : decode cX8_isToKnown 9 = .ok (.ifCond .eq 21, 3) := by decide +kernel
theorem dX8_isToKnown_12 : decode cX8_isToKnown 12 = .ok (.aload_n 0, 1) := by decide +kernel
theorem dX8_isToKnown_13 : decode cX8_isToKnown 13 = .ok (.getfield 26, 3) := by decide +kernel
theorem dX8_isToKnown_16 : decode cX8_isToKnown 16 = .ok (.getfield 141, 3) := by decide +kernel
theorem dX8_isToKnown_19 : decode cX8_isToKnown 19 = .ok (.iload_n 2, 1) := by decide +kernel
theorem dX8_isToKnown_20 : decode cX8_isToKnown 20 = .ok (.iaload, 1) := by decide +kernel
theorem dX8_isToKnown_21 : decode cX8_isToKnown 21 = .ok (.bipush (-6), 2) := by decide +kernel
theorem dX8_isToKnown_23 : decode cX8_isToKnown 23 = .ok (.if_icmp .eq 7, 3) := by decide +kernel
theorem dX8_isToKnown_26 : decode cX8_isToKnown 26 = .ok (.iconst 1, 1) := by decide +kernel
theorem dX8_isToKnown_27 : decode cX8_isToKnown 27 = .ok (.goto 4, 3) := by decide +kernel
theorem dX8_isToKnown_30 : decode cX8_isToKnown 30 = .ok (.iconst 0, 1) := by decide +kernel
theorem dX8_isToKnown_31 : decode cX8_isToKnown 31 = .ok (.ireturn, 1) := by decide +kernel
theorem dX8_isRight_0 : decode cX8_isRight 0 = .ok (.aload_n 0, 1) := by decide +kernel
theorem dX8_isRight_1 : decode cX8_isRight 1 = .ok (.iload_n 1, 1) := by decide +kernel
theorem dX8_isRight_2 : decode cX8_isRight 2 = .ok (.iload_n 2, 1) := by decide +kernel
theorem dX8_isRight_3 : decode cX8_isRight 3 = .ok (.invokevirtual 225, 3) := by decide +kernel
theorem dX8_isRight_6 : decode cX8_isRight 6 = .ok (.ifCond .eq 30, 3) := by decide +kernel
theorem dX8_isRight_9 : decode cX8_isRight 9 = .ok (.aload_n 0, 1) := by decide +kernel
theorem dX8_isRight_10 : decode cX8_isRight 10 = .ok (.getfield 33, 3) := by decide +kernel
theorem dX8_isRight_13 : decode cX8_isRight 13 = .ok (.getfield 181, 3) := by decide +kernel
theorem dX8_isRight_16 : decode cX8_isRight 16 = .ok (.iload_n 1, 1) := by decide +kernel
theorem dX8_isRight_17 : decode cX8_isRight 17 = .ok (.aaload, 1) := by decide +kernel
theorem dX8_isRight_18 : decode cX8_isRight 18 = .ok (.iload_n 2, 1) := by decide +kernel
theorem dX8_isRight_19 : decode cX8_isRight 19 = .ok (.iaload, 1) := by decide +kernel
theorem dX8_isRight_20 : decode cX8_isRight 20 = .ok (.aload_n 0, 1) := by decide +kernel
theorem dX8_isRight_21 : decode cX8_isRight 21 = .ok (.getfield 26, 3) := by decide +kernel
theorem dX8_isRight_24 : decode cX8_isRight 24 = .ok (.getfield 141, 3) := by decide +kernel
theorem dX8_isRight_27 : decode cX8_isRight 27 = .ok (.iload_n 2, 1) := by decide +kernel
theorem dX8_isRight_28 : decode cX8_isRight 28 = .ok (.iaload, 1) := by decide +kernel
theorem dX8_isRight_29 : decode cX8_isRight 29 = .ok (.if_icmp .ne 7, 3) := by decide +kernel
theorem dX8_isRight_32 : decode cX8_isRight 32 = .ok (.iconst 1, 1) := by decide +kernel
theorem dX8_isRight_33 : decode cX8_isRight 33 = .ok (.goto 4, 3) := by decide +kernel
theorem dX8_isRight_36 : decode cX8_isRight 36 = .ok (.iconst 0, 1) := by decide +kernel
theorem dX8_isRight_37 : decode cX8_isRight 37 = .ok (.ireturn, 1) := by decide +kernel
theorem dX8_answersOf_0 : decode cX8_answersOf 0 = .ok (.iconst 0, 1) := by decide +kernel
theorem dX8_answersOf_1 : decode cX8_answersOf 1 = .ok (.istore_n 2, 1) := by decide +kernel
theorem dX8_answersOf_2 : decode cX8_answersOf 2 = .ok (.iconst 0, 1) := by decide +kernel
theorem dX8_answersOf_3 : decode cX8_answersOf 3 = .ok (.istore_n 3, 1) := by decide +kernel
theorem dX8_answersOf_4 : decode cX8_answersOf 4 = .ok (.iload_n 3, 1) := by decide +kernel
theorem dX8_answersOf_5 : decode cX8_answersOf 5 = .ok (.aload_n 0, 1) := by decide +kernel
theorem dX8_answersOf_6 : decode cX8_answersOf 6 = .ok (.getfield 26, 3) := by decide +kernel
theorem dX8_answersOf_9 : decode cX8_answersOf 9 = .ok (.getfield 101, 3) := by decide +kernel
theorem dX8_answersOf_12 : decode cX8_answersOf 12 = .ok (.if_icmp .ge 29, 3) := by decide +kernel
theorem dX8_answersOf_15 : decode cX8_answersOf 15 = .ok (.iload_n 2, 1) := by decide +kernel
theorem dX8_answersOf_16 : decode cX8_answersOf 16 = .ok (.aload_n 0, 1) := by decide +kernel
theorem dX8_answersOf_17 : decode cX8_answersOf 17 = .ok (.getfield 33, 3) := by decide +kernel
theorem dX8_answersOf_20 : decode cX8_answersOf 20 = .ok (.iload_n 1, 1) := by decide +kernel
theorem dX8_answersOf_21 : decode cX8_answersOf 21 = .ok (.iload_n 3, 1) := by decide +kernel
theorem dX8_answersOf_22 : decode cX8_answersOf 22 = .ok (.invokevirtual 241, 3) := by decide +kernel
theorem dX8_answersOf_25 : decode cX8_answersOf 25 = .ok (.ifCond .eq 7, 3) := by decide +kernel
theorem dX8_answersOf_28 : decode cX8_answersOf 28 = .ok (.iconst 1, 1) := by decide +kernel
theorem dX8_answersOf_29 : decode cX8_answersOf 29 = .ok (.goto 4, 3) := by decide +kernel
theorem dX8_answersOf_32 : decode cX8_answersOf 32 = .ok (.iconst 0, 1) := by decide +kernel
theorem dX8_answersOf_33 : decode cX8_answersOf 33 = .ok (.iadd, 1) := by decide +kernel
theorem dX8_answersOf_34 : decode cX8_answersOf 34 = .ok (.istore_n 2, 1) := by decide +kernel
theorem dX8_answersOf_35 : decode cX8_answersOf 35 = .ok (.iinc 3 1, 3) := by decide +kernel
theorem dX8_answersOf_38 : decode cX8_answersOf 38 = .ok (.goto (-34), 3) := by decide +kernel
theorem dX8_answersOf_41 : decode cX8_answersOf 41 = .ok (.iload_n 2, 1) := by decide +kernel
theorem dX8_answersOf_42 : decode cX8_answersOf 42 = .ok (.ireturn, 1) := by decide +kernel
theorem dX8_answersToKnown_0 : decode cX8_answersToKnown 0 = .ok (.iconst 0, 1) := by decide +kernel
theorem dX8_answersToKnown_1 : decode cX8_answersToKnown 1 = .ok (.istore_n 2, 1) := by decide +kernel
theorem dX8_answersToKnown_2 : decode cX8_answersToKnown 2 = .ok (.iconst 0, 1) := by decide +kernel
theorem dX8_answersToKnown_3 : decode cX8_answersToKnown 3 = .ok (.istore_n 3, 1) := by decide +kernel
theorem dX8_answersToKnown_4 : decode cX8_answersToKnown 4 = .ok (.iload_n 3, 1) := by decide +kernel
theorem dX8_answersToKnown_5 : decode cX8_answersToKnown 5 = .ok (.aload_n 0, 1) := by decide +kernel
theorem dX8_answersToKnown_6 : decode cX8_answersToKnown 6 = .ok (.getfield 26, 3) := by decide +kernel
theorem dX8_answersToKnown_9 : decode cX8_answersToKnown 9 = .ok (.getfield 101, 3) := by decide +kernel
theorem dX8_answersToKnown_12 : decode cX8_answersToKnown 12 = .ok (.if_icmp .ge 26, 3) := by decide +kernel
theorem dX8_answersToKnown_15 : decode cX8_answersToKnown 15 = .ok (.iload_n 2, 1) := by decide +kernel
theorem dX8_answersToKnown_16 : decode cX8_answersToKnown 16 = .ok (.aload_n 0, 1) := by decide +kernel
theorem dX8_answersToKnown_17 : decode cX8_answersToKnown 17 = .ok (.iload_n 1, 1) := by decide +kernel
theorem dX8_answersToKnown_18 : decode cX8_answersToKnown 18 = .ok (.iload_n 3, 1) := by decide +kernel
theorem dX8_answersToKnown_19 : decode cX8_answersToKnown 19 = .ok (.invokevirtual 225, 3) := by decide +kernel
theorem dX8_answersToKnown_22 : decode cX8_answersToKnown 22 = .ok (.ifCond .eq 7, 3) := by decide +kernel
theorem dX8_answersToKnown_25 : decode cX8_answersToKnown 25 = .ok (.iconst 1, 1) := by decide +kernel
theorem dX8_answersToKnown_26 : decode cX8_answersToKnown 26 = .ok (.goto 4, 3) := by decide +kernel
theorem dX8_answersToKnown_29 : decode cX8_answersToKnown 29 = .ok (.iconst 0, 1) := by decide +kernel
theorem dX8_answersToKnown_30 : decode cX8_answersToKnown 30 = .ok (.iadd, 1) := by decide +kernel
theorem dX8_answersToKnown_31 : decode cX8_answersToKnown 31 = .ok (.istore_n 2, 1) := by decide +kernel
theorem dX8_answersToKnown_32 : decode cX8_answersToKnown 32 = .ok (.iinc 3 1, 3) := by decide +kernel
theorem dX8_answersToKnown_35 : decode cX8_answersToKnown 35 = .ok (.goto (-31), 3) := by decide +kernel
theorem dX8_answersToKnown_38 : decode cX8_answersToKnown 38 = .ok (.iload_n 2, 1) := by decide +kernel
theorem dX8_answersToKnown_39 : decode cX8_answersToKnown 39 = .ok (.ireturn, 1) := by decide +kernel
theorem dX8_rightOf_0 : decode cX8_rightOf 0 = .ok (.iconst 0, 1) := by decide +kernel
theorem dX8_rightOf_1 : decode cX8_rightOf 1 = .ok (.istore_n 2, 1) := by decide +kernel
theorem dX8_rightOf_2 : decode cX8_rightOf 2 = .ok (.iconst 0, 1) := by decide +kernel
theorem dX8_rightOf_3 : decode cX8_rightOf 3 = .ok (.istore_n 3, 1) := by decide +kernel
theorem dX8_rightOf_4 : decode cX8_rightOf 4 = .ok (.iload_n 3, 1) := by decide +kernel
theorem dX8_rightOf_5 : decode cX8_rightOf 5 = .ok (.aload_n 0, 1) := by decide +kernel
theorem dX8_rightOf_6 : decode cX8_rightOf 6 = .ok (.getfield 26, 3) := by decide +kernel
theorem dX8_rightOf_9 : decode cX8_rightOf 9 = .ok (.getfield 101, 3) := by decide +kernel
theorem dX8_rightOf_12 : decode cX8_rightOf 12 = .ok (.if_icmp .ge 26, 3) := by decide +kernel
theorem dX8_rightOf_15 : decode cX8_rightOf 15 = .ok (.iload_n 2, 1) := by decide +kernel
theorem dX8_rightOf_16 : decode cX8_rightOf 16 = .ok (.aload_n 0, 1) := by decide +kernel
theorem dX8_rightOf_17 : decode cX8_rightOf 17 = .ok (.iload_n 1, 1) := by decide +kernel
theorem dX8_rightOf_18 : decode cX8_rightOf 18 = .ok (.iload_n 3, 1) := by decide +kernel
theorem dX8_rightOf_19 : decode cX8_rightOf 19 = .ok (.invokevirtual 254, 3) := by decide +kernel
theorem dX8_rightOf_22 : decode cX8_rightOf 22 = .ok (.ifCond .eq 7, 3) := by decide +kernel
theorem dX8_rightOf_25 : decode cX8_rightOf 25 = .ok (.iconst 1, 1) := by decide +kernel
theorem dX8_rightOf_26 : decode cX8_rightOf 26 = .ok (.goto 4, 3) := by decide +kernel
theorem dX8_rightOf_29 : decode cX8_rightOf 29 = .ok (.iconst 0, 1) := by decide +kernel
theorem dX8_rightOf_30 : decode cX8_rightOf 30 = .ok (.iadd, 1) := by decide +kernel
theorem dX8_rightOf_31 : decode cX8_rightOf 31 = .ok (.istore_n 2, 1) := by decide +kernel
theorem dX8_rightOf_32 : decode cX8_rightOf 32 = .ok (.iinc 3 1, 3) := by decide +kernel
theorem dX8_rightOf_35 : decode cX8_rightOf 35 = .ok (.goto (-31), 3) := by decide +kernel
theorem dX8_rightOf_38 : decode cX8_rightOf 38 = .ok (.iload_n 2, 1) := by decide +kernel
theorem dX8_rightOf_39 : decode cX8_rightOf 39 = .ok (.ireturn, 1) := by decide +kernel
theorem dX8_allAnswers_0 : decode cX8_allAnswers 0 = .ok (.iconst 0, 1) := by decide +kernel
theorem dX8_allAnswers_1 : decode cX8_allAnswers 1 = .ok (.istore_n 1, 1) := by decide +kernel
theorem dX8_allAnswers_2 : decode cX8_allAnswers 2 = .ok (.iconst 0, 1) := by decide +kernel
theorem dX8_allAnswers_3 : decode cX8_allAnswers 3 = .ok (.istore_n 2, 1) := by decide +kernel
theorem dX8_allAnswers_4 : decode cX8_allAnswers 4 = .ok (.iload_n 2, 1) := by decide +kernel
theorem dX8_allAnswers_5 : decode cX8_allAnswers 5 = .ok (.aload_n 0, 1) := by decide +kernel
theorem dX8_allAnswers_6 : decode cX8_allAnswers 6 = .ok (.getfield 33, 3) := by decide +kernel
theorem dX8_allAnswers_9 : decode cX8_allAnswers 9 = .ok (.getfield 102, 3) := by decide +kernel
theorem dX8_allAnswers_12 : decode cX8_allAnswers 12 = .ok (.if_icmp .ge 17, 3) := by decide +kernel
theorem dX8_allAnswers_15 : decode cX8_allAnswers 15 = .ok (.iload_n 1, 1) := by decide +kernel
theorem dX8_allAnswers_16 : decode cX8_allAnswers 16 = .ok (.aload_n 0, 1) := by decide +kernel
theorem dX8_allAnswers_17 : decode cX8_allAnswers 17 = .ok (.iload_n 2, 1) := by decide +kernel
theorem dX8_allAnswers_18 : decode cX8_allAnswers 18 = .ok (.invokevirtual 206, 3) := by decide +kernel
theorem dX8_allAnswers_21 : decode cX8_allAnswers 21 = .ok (.iadd, 1) := by decide +kernel
theorem dX8_allAnswers_22 : decode cX8_allAnswers 22 = .ok (.istore_n 1, 1) := by decide +kernel
theorem dX8_allAnswers_23 : decode cX8_allAnswers 23 = .ok (.iinc 2 1, 3) := by decide +kernel
theorem dX8_allAnswers_26 : decode cX8_allAnswers 26 = .ok (.goto (-22), 3) := by decide +kernel
theorem dX8_allAnswers_29 : decode cX8_allAnswers 29 = .ok (.iload_n 1, 1) := by decide +kernel
theorem dX8_allAnswers_30 : decode cX8_allAnswers 30 = .ok (.ireturn, 1) := by decide +kernel
theorem dX8_isMisread_0 : decode cX8_isMisread 0 = .ok (.iconst 0, 1) := by decide +kernel
theorem dX8_isMisread_1 : decode cX8_isMisread 1 = .ok (.istore_n 3, 1) := by decide +kernel
theorem dX8_isMisread_2 : decode cX8_isMisread 2 = .ok (.iload_n 3, 1) := by decide +kernel
theorem dX8_isMisread_3 : decode cX8_isMisread 3 = .ok (.aload_n 0, 1) := by decide +kernel
theorem dX8_isMisread_4 : decode cX8_isMisread 4 = .ok (.getfield 26, 3) := by decide +kernel
theorem dX8_isMisread_7 : decode cX8_isMisread 7 = .ok (.getfield 160, 3) := by decide +kernel
theorem dX8_isMisread_10 : decode cX8_isMisread 10 = .ok (.iload_n 1, 1) := by decide +kernel
theorem dX8_isMisread_11 : decode cX8_isMisread 11 = .ok (.iaload, 1) := by decide +kernel
theorem dX8_isMisread_12 : decode cX8_isMisread 12 = .ok (.if_icmp .ge 37, 3) := by decide +kernel
theorem dX8_isMisread_15 : decode cX8_isMisread 15 = .ok (.iload_n 3, 1) := by decide +kernel
theorem dX8_isMisread_16 : decode cX8_isMisread 16 = .ok (.aload_n 0, 1) := by decide +kernel
theorem dX8_isMisread_17 : decode cX8_isMisread 17 = .ok (.getfield 26, 3) := by decide +kernel
theorem dX8_isMisread_20 : decode cX8_isMisread 20 = .ok (.getfield 141, 3) := by decide +kernel
theorem dX8_isMisread_23 : decode cX8_isMisread 23 = .ok (.iload_n 1, 1) := by decide +kernel
theorem dX8_isMisread_24 : decode cX8_isMisread 24 = .ok (.iaload, 1) := by decide +kernel
theorem dX8_isMisread_25 : decode cX8_isMisread 25 = .ok (.if_icmp .eq 18, 3) := by decide +kernel
theorem dX8_isMisread_28 : decode cX8_isMisread 28 = .ok (.aload_n 0, 1) := by decide +kernel
theorem dX8_isMisread_29 : decode cX8_isMisread 29 = .ok (.getfield 33, 3) := by decide +kernel
theorem dX8_isMisread_32 : decode cX8_isMisread 32 = .ok (.iload_n 1, 1) := by decide +kernel
theorem dX8_isMisread_33 : decode cX8_isMisread 33 = .ok (.iload_n 3, 1) := by decide +kernel
theorem dX8_isMisread_34 : decode cX8_isMisread 34 = .ok (.invokevirtual 303, 3) := by decide +kernel
theorem dX8_isMisread_37 : decode cX8_isMisread 37 = .ok (.iload_n 2, 1) := by decide +kernel
theorem dX8_isMisread_38 : decode cX8_isMisread 38 = .ok (.if_icmp .lt 5, 3) := by decide +kernel
theorem dX8_isMisread_41 : decode cX8_isMisread 41 = .ok (.iconst 1, 1) := by decide +kernel
theorem dX8_isMisread_42 : decode cX8_isMisread 42 = .ok (.ireturn, 1) := by decide +kernel
theorem dX8_isMisread_43 : decode cX8_isMisread 43 = .ok (.iinc 3 1, 3) := by decide +kernel
theorem dX8_isMisread_46 : decode cX8_isMisread 46 = .ok (.goto (-44), 3) := by decide +kernel
theorem dX8_isMisread_49 : decode cX8_isMisread 49 = .ok (.iconst 0, 1) := by decide +kernel
theorem dX8_isMisread_50 : decode cX8_isMisread 50 = .ok (.ireturn, 1) := by decide +kernel
