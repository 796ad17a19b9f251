theorem dX9_item_15 : decode cX9_item 15 = .ok (.ireturn, 1) := by decide +kernel
theorem dX9_item_16 : decode cX9_item 16 = .ok (.iload_n 2, 1) := by decide +kernel
theorem dX9_item_17 : decode cX9_item 17 = .ok (.iconst 0, 1) := by decide +kernel
theorem dX9_item_18 : decode cX9_item 18 = .ok (.bipush 9, 2) := by decide +kernel
theorem dX9_item_20 : decode cX9_item 20 = .ok (.invokestatic 93, 3) := by decide +kernel
theorem dX9_item_23 : decode cX9_item 23 = .ok (.ifCond .ne 6, 3) := by decide +kernel
theorem dX9_item_26 : decode cX9_item 26 = .ok (.bipush (-2), 2) := by decide +kernel
theorem dX9_item_28 : decode cX9_item 28 = .ok (.ireturn, 1) := by decide +kernel
theorem dX9_item_29 : decode cX9_item 29 = .ok (.aload_n 0, 1) := by decide +kernel
theorem dX9_item_30 : decode cX9_item 30 = .ok (.getfield 115, 3) := by decide +kernel
theorem dX9_item_33 : decode cX9_item 33 = .ok (.bipush 24, 2) := by decide +kernel
theorem dX9_item_35 : decode cX9_item 35 = .ok (.if_icmp .ne 6, 3) := by decide +kernel
theorem dX9_item_38 : decode cX9_item 38 = .ok (.bipush (-4), 2) := by decide +kernel
theorem dX9_item_40 : decode cX9_item 40 = .ok (.ireturn, 1) := by decide +kernel
theorem dX9_item_41 : decode cX9_item 41 = .ok (.aload_n 0, 1) := by decide +kernel
theorem dX9_item_42 : decode cX9_item 42 = .ok (.iload_n 1, 1) := by decide +kernel
theorem dX9_item_43 : decode cX9_item 43 = .ok (.iload_n 2, 1) := by decide +kernel
theorem dX9_item_44 : decode cX9_item 44 = .ok (.invokevirtual 131, 3) := by decide +kernel
theorem dX9_item_47 : decode cX9_item 47 = .ok (.ifCond .lt 6, 3) := by decide +kernel
theorem dX9_item_50 : decode cX9_item 50 = .ok (.bipush (-5), 2) := by decide +kernel
theorem dX9_item_52 : decode cX9_item 52 = .ok (.ireturn, 1) := by decide +kernel
theorem dX9_item_53 : decode cX9_item 53 = .ok (.aload_n 0, 1) := by decide +kernel
theorem dX9_item_54 : decode cX9_item 54 = .ok (.getfield 25, 3) := by decide +kernel
theorem dX9_item_57 : decode cX9_item 57 = .ok (.aload_n 0, 1) := by decide +kernel
theorem dX9_item_58 : decode cX9_item 58 = .ok (.getfield 115, 3) := by decide +kernel
theorem dX9_item_61 : decode cX9_item 61 = .ok (.iload_n 1, 1) := by decide +kernel
theorem dX9_item_62 : decode cX9_item 62 = .ok (.iastore, 1) := by decide +kernel
theorem dX9_item_63 : decode cX9_item 63 = .ok (.aload_n 0, 1) := by decide +kernel
theorem dX9_item_64 : decode cX9_item 64 = .ok (.getfield 28, 3) := by decide +kernel
theorem dX9_item_67 : decode cX9_item 67 = .ok (.aload_n 0, 1) := by decide +kernel
theorem dX9_item_68 : decode cX9_item 68 = .ok (.getfield 115, 3) := by decide +kernel
theorem dX9_item_71 : decode cX9_item 71 = .ok (.iload_n 2, 1) := by decide +kernel
theorem dX9_item_72 : decode cX9_item 72 = .ok (.iastore, 1) := by decide +kernel
theorem dX9_item_73 : decode cX9_item 73 = .ok (.aload_n 0, 1) := by decide +kernel
theorem dX9_item_74 : decode cX9_item 74 = .ok (.getfield 31, 3) := by decide +kernel
theorem dX9_item_77 : decode cX9_item 77 = .ok (.aload_n 0, 1) := by decide +kernel
theorem dX9_item_78 : decode cX9_item 78 = .ok (.getfield 115, 3) := by decide +kernel
theorem dX9_item_81 : decode cX9_item 81 = .ok (.bipush (-6), 2) := by decide +kernel
theorem dX9_item_83 : decode cX9_item 83 = .ok (.iastore, 1) := by decide +kernel
theorem dX9_item_84 : decode cX9_item 84 = .ok (.aload_n 0, 1) := by decide +kernel
theorem dX9_item_85 : decode cX9_item 85 = .ok (.getfield 34, 3) := by decide +kernel
theorem dX9_item_88 : decode cX9_item 88 = .ok (.aload_n 0, 1) := by decide +kernel
theorem dX9_item_89 : decode cX9_item 89 = .ok (.getfield 115, 3) := by decide +kernel
theorem dX9_item_92 : decode cX9_item 92 = .ok (.bipush (-6), 2) := by decide +kernel
theorem dX9_item_94 : decode cX9_item 94 = .ok (.iastore, 1) := by decide +kernel
theorem dX9_item_95 : decode cX9_item 95 = .ok (.aload_n 0, 1) := by decide +kernel
theorem dX9_item_96 : decode cX9_item 96 = .ok (.getfield 37, 3) := by decide +kernel
theorem dX9_item_99 : decode cX9_item 99 = .ok (.aload_n 0, 1) := by decide +kernel
theorem dX9_item_100 : decode cX9_item 100 = .ok (.getfield 115, 3) := by decide +kernel
theorem dX9_item_103 : decode cX9_item 103 = .ok (.iconst 0, 1) := by decide +kernel
theorem dX9_item_104 : decode cX9_item 104 = .ok (.iastore, 1) := by decide +kernel
theorem dX9_item_105 : decode cX9_item 105 = .ok (.iconst 0, 1) := by decide +kernel
theorem dX9_item_106 : decode cX9_item 106 = .ok (.istore_n 3, 1) := by decide +kernel
theorem dX9_item_107 : decode cX9_item 107 = .ok (.iload_n 3, 1) := by decide +kernel
theorem dX9_item_108 : decode cX9_item 108 = .ok (.bipush 10, 2) := by decide +kernel
theorem dX9_item_110 : decode cX9_item 110 = .ok (.if_icmp .ge 24, 3) := by decide +kernel
theorem dX9_item_113 : decode cX9_item 113 = .ok (.aload_n 0, 1) := by decide +kernel
theorem dX9_item_114 : decode cX9_item 114 = .ok (.getfield 47, 3) := by decide +kernel
theorem dX9_item_117 : decode cX9_item 117 = .ok (.bipush 24, 2) := by decide +kernel
theorem dX9_item_119 : decode cX9_item 119 = .ok (.iload_n 3, 1) := by decide +kernel
theorem dX9_item_120 : decode cX9_item 120 = .ok (.imul, 1) := by decide +kernel
theorem dX9_item_121 : decode cX9_item 121 = .ok (.aload_n 0, 1) := by decide +kernel
theorem dX9_item_122 : decode cX9_item 122 = .ok (.getfield 115, 3) := by decide +kernel
theorem dX9_item_125 : decode cX9_item 125 = .ok (.iadd, 1) := by decide +kernel
theorem dX9_item_126 : decode cX9_item 126 = .ok (.iconst 0, 1) := by decide +kernel
theorem dX9_item_127 : decode cX9_item 127 = .ok (.iastore, 1) := by decide +kernel
theorem dX9_item_128 : decode cX9_item 128 = .ok (.iinc 3 1, 3) := by decide +kernel
theorem dX9_item_131 : decode cX9_item 131 = .ok (.goto (-24), 3) := by decide +kernel
theorem dX9_item_134 : decode cX9_item 134 = .ok (.aload_n 0, 1) := by decide +kernel
theorem dX9_item_135 : decode cX9_item 135 = .ok (.dup, 1) := by decide +kernel
theorem dX9_item_136 : decode cX9_item 136 = .ok (.getfield 115, 3) := by decide +kernel
theorem dX9_item_139 : decode cX9_item 139 = .ok (.iconst 1, 1) := by decide +kernel
theorem dX9_item_140 : decode cX9_item 140 = .ok (.iadd, 1) := by decide +kernel
theorem dX9_item_141 : decode cX9_item 141 = .ok (.putfield 115, 3) := by decide +kernel
theorem dX9_item_144 : decode cX9_item 144 = .ok (.aload_n 0, 1) := by decide +kernel
theorem dX9_item_145 : decode cX9_item 145 = .ok (.getfield 115, 3) := by decide +kernel
theorem dX9_item_148 : decode cX9_item 148 = .ok (.iconst 1, 1) := by decide +kernel
theorem dX9_item_149 : decode cX9_item 149 = .ok (.isub, 1) := by decide +kernel
theorem dX9_item_150 : decode cX9_item 150 = .ok (.ireturn, 1) := by decide +kernel
theorem dX9_isItem_0 : decode cX9_isItem 0 = .ok (.iload_n 1, 1) := by decide +kernel
theorem dX9_isItem_1 : decode cX9_isItem 1 = .ok (.iconst 0, 1) := by decide +kernel
theorem dX9_isItem_2 : decode cX9_isItem 2 = .ok (.aload_n 0, 1) := by decide +kernel
theorem dX9_isItem_3 : decode cX9_isItem 3 = .ok (.getfield 115, 3) := by decide +kernel
theorem dX9_isItem_6 : decode cX9_isItem 6 = .ok (.iconst 1, 1) := by decide +kernel
theorem dX9_isItem_7 : decode cX9_isItem 7 = .ok (.isub, 1) := by decide +kernel
theorem dX9_isItem_8 : decode cX9_isItem 8 = .ok (.invokestatic 93, 3) := by decide +kernel
theorem dX9_isItem_11 : decode cX9_isItem 11 = .ok (.ireturn, 1) := by decide +kernel
theorem dX9_isHand_0 : decode cX9_isHand 0 = .ok (.iload_n 1, 1) := by decide +kernel
theorem dX9_isHand_1 : decode cX9_isHand 1 = .ok (.iconst 0, 1) := by decide +kernel
theorem dX9_isHand_2 : decode cX9_isHand 2 = .ok (.aload_n 0, 1) := by decide +kernel
theorem dX9_isHand_3 : decode cX9_isHand 3 = .ok (.getfield 118, 3) := by decide +kernel
theorem dX9_isHand_6 : decode cX9_isHand 6 = .ok (.iconst 1, 1) := by decide +kernel
theorem dX9_isHand_7 : decode cX9_isHand 7 = .ok (.isub, 1) := by decide +kernel
theorem dX9_isHand_8 : decode cX9_isHand 8 = .ok (.invokestatic 93, 3) := by decide +kernel
theorem dX9_isHand_11 : decode cX9_isHand 11 = .ok (.ireturn, 1) := by decide +kernel
theorem dX9_labelsOf_0 : decode cX9_labelsOf 0 = .ok (.aload_n 0, 1) := by decide +kernel
theorem dX9_labelsOf_1 : decode cX9_labelsOf 1 = .ok (.getfield 16, 3) := by decide +kernel
theorem dX9_labelsOf_4 : decode cX9_labelsOf 4 = .ok (.aload_n 0, 1) := by decide +kernel
theorem dX9_labelsOf_5 : decode cX9_labelsOf 5 = .ok (.getfield 25, 3) := by decide +kernel
theorem dX9_labelsOf_8 : decode cX9_labelsOf 8 = .ok (.iload_n 1, 1) := by decide +kernel
theorem dX9_labelsOf_9 : decode cX9_labelsOf 9 = .ok (.iaload, 1) := by decide +kernel
theorem dX9_labelsOf_10 : decode cX9_labelsOf 10 = .ok (.iaload, 1) := by decide +kernel
theorem dX9_labelsOf_11 : decode cX9_labelsOf 11 = .ok (.ireturn, 1) := by decide +kernel
theorem dX9_isLabel_0 : decode cX9_isLabel 0 = .ok (.aload_n 0, 1) := by decide +kernel
theorem dX9_isLabel_1 : decode cX9_isLabel 1 = .ok (.iload_n 1, 1) := by decide +kernel
theorem dX9_isLabel_2 : decode cX9_isLabel 2 = .ok (.invokevirtual 134, 3) := by decide +kernel
theorem dX9_isLabel_5 : decode cX9_isLabel 5 = .ok (.ifCond .eq 22, 3) := by decide +kernel
theorem dX9_isLabel_8 : decode cX9_isLabel 8 = .ok (.iload_n 2, 1) := by decide +kernel
theorem dX9_isLabel_9 : decode cX9_isLabel 9 = .ok (.iconst 0, 1) := by decide +kernel
theorem dX9_isLabel_10 : decode cX9_isLabel 10 = .ok (.aload_n 0, 1) := by decide +kernel
theorem dX9_isLabel_11 : decode cX9_isLabel 11 = .ok (.iload_n 1, 1) := by decide +kernel
theorem dX9_isLabel_12 : decode cX9_isLabel 12 = .ok (.invokevirtual 138, 3) := by decide +kernel
theorem dX9_isLabel_15 : decode cX9_isLabel 15 = .ok (.iconst 1, 1) := by decide +kernel
theorem dX9_isLabel_16 : decode cX9_isLabel 16 = .ok (.isub, 1) := by decide +kernel
theorem dX9_isLabel_17 : decode cX9_isLabel 17 = .ok (.invokestatic 93, 3) := by decide +kernel
theorem dX9_isLabel_20 : decode cX9_isLabel 20 = .ok (.ifCond .eq 7, 3) := by decide +kernel
theorem dX9_isLabel_23 : decode cX9_isLabel 23 = .ok (.iconst 1, 1) := by decide +kernel
theorem dX9_isLabel_24 : decode cX9_isLabel 24 = .ok (.goto 4, 3) := by decide +kernel
theorem dX9_isLabel_27 : decode cX9_isLabel 27 = .ok (.iconst 0, 1) := by decide +kernel
theorem dX9_isLabel_28 : decode cX9_isLabel 28 = .ok (.ireturn, 1) := by decide +kernel
theorem dX9_fixed_0 : decode cX9_fixed 0 = .ok (.aload_n 0, 1) := by decide +kernel
theorem dX9_fixed_1 : decode cX9_fixed 1 = .ok (.getfield 31, 3) := by decide +kernel
theorem dX9_fixed_4 : decode cX9_fixed 4 = .ok (.iload_n 1, 1) := by decide +kernel
theorem dX9_fixed_5 : decode cX9_fixed 5 = .ok (.iaload, 1) := by decide +kernel
theorem dX9_fixed_6 : decode cX9_fixed 6 = .ok (.ifCond .lt 12, 3) := by decide +kernel
theorem dX9_fixed_9 : decode cX9_fixed 9 = .ok (.aload_n 0, 1) := by decide +kernel
theorem dX9_fixed_10 : decode cX9_fixed 10 = .ok (.getfield 31, 3) := by decide +kernel
theorem dX9_fixed_13 : decode cX9_fixed 13 = .ok (.iload_n 1, 1) := by decide +kernel
theorem dX9_fixed_14 : decode cX9_fixed 14 = .ok (.iaload, 1) := by decide +kernel
theorem dX9_fixed_15 : decode cX9_fixed 15 = .ok (.goto 9, 3) := by decide +kernel
theorem dX9_fixed_18 : decode cX9_fixed 18 = .ok (.aload_n 0, 1) := by decide +kernel
theorem dX9_fixed_19 : decode cX9_fixed 19 = .ok (.getfield 34, 3) := by decide +kernel
theorem dX9_fixed_22 : decode cX9_fixed 22 = .ok (.iload_n 1, 1) := by decide +kernel
theorem dX9_fixed_23 : decode cX9_fixed 23 = .ok (.iaload, 1) := by decide +kernel
theorem dX9_fixed_24 : decode cX9_fixed 24 = .ok (.ireturn, 1) := by decide +kernel
theorem dX9_known_0 : decode cX9_known 0 = .ok (.aload_n 0, 1) := by decide +kernel
theorem dX9_known_1 : decode cX9_known 1 = .ok (.iload_n 1, 1) := by decide +kernel
theorem dX9_known_2 : decode cX9_known 2 = .ok (.iload_n 2, 1) := by decide +kernel
theorem dX9_known_3 : decode cX9_known 3 = .ok (.invokevirtual 142, 3) := by decide +kernel
theorem dX9_known_6 : decode cX9_known 6 = .ok (.ifCond .ne 5, 3) := by decide +kernel
theorem dX9_known_9 : decode cX9_known 9 = .ok (.iconst (-1), 1) := by decide +kernel
theorem dX9_known_10 : decode cX9_known 10 = .ok (.ireturn, 1) := by decide +kernel
theorem dX9_known_11 : decode cX9_known 11 = .ok (.iconst 0, 1) := by decide +kernel
theorem dX9_known_12 : decode cX9_known 12 = .ok (.istore_n 3, 1) := by decide +kernel
theorem dX9_known_13 : decode cX9_known 13 = .ok (.iconst 0, 1) := by decide +kernel
theorem dX9_known_14 : decode cX9_known 14 = .ok (.istore 4, 2) := by decide +kernel
theorem dX9_known_16 : decode cX9_known 16 = .ok (.iload 4, 2) := by decide +kernel
theorem dX9_known_18 : decode cX9_known 18 = .ok (.aload_n 0, 1) := by decide +kernel
theorem dX9_known_19 : decode cX9_known 19 = .ok (.getfield 118, 3) := by decide +kernel
theorem dX9_known_22 : decode cX9_known 22 = .ok (.if_icmp .ge 34, 3) := by decide +kernel
theorem dX9_known_25 : decode cX9_known 25 = .ok (.iload_n 3, 1) := by decide +kernel
theorem dX9_known_26 : decode cX9_known 26 = .ok (.ifCond .ne 18, 3) := by decide +kernel
theorem dX9_known_29 : decode cX9_known 29 = .ok (.aload_n 0, 1) := by decide +kernel
theorem dX9_known_30 : decode cX9_known 30 = .ok (.getfield 47, 3) := by decide +kernel
theorem dX9_known_33 : decode cX9_known 33 = .ok (.bipush 24, 2) := by decide +kernel
theorem dX9_known_35 : decode cX9_known 35 = .ok (.iload 4, 2) := by decide +kernel
theorem dX9_known_37 : decode cX9_known 37 = .ok (.imul, 1) := by decide +kernel
theorem dX9_known_38 : decode cX9_known 38 = .ok (.iload_n 1, 1) := by decide +kernel
theorem dX9_known_39 : decode cX9_known 39 = .ok (.iadd, 1) := by decide +kernel
theorem dX9_known_40 : decode cX9_known 40 = .ok (.iaload, 1) := by decide +kernel
theorem dX9_known_41 : decode cX9_known 41 = .ok (.ifCond .le 7, 3) := by decide +kernel
theorem dX9_known_44 : decode cX9_known 44 = .ok (.iconst 1, 1) := by decide +kernel
theorem dX9_known_45 : decode cX9_known 45 = .ok (.goto 4, 3) := by decide +kernel
theorem dX9_known_48 : decode cX9_known 48 = .ok (.iconst 0, 1) := by decide +kernel
theorem dX9_known_49 : decode cX9_known 49 = .ok (.istore_n 3, 1) := by decide +kernel
theorem dX9_known_50 : decode cX9_known 50 = .ok (.iinc 4 1, 3) := by decide +kernel
theorem dX9_known_53 : decode cX9_known 53 = .ok (.goto (-37), 3) := by decide +kernel
theorem dX9_known_56 : decode cX9_known 56 = .ok (.iload_n 3, 1) := by decide +kernel
theorem dX9_known_57 : decode cX9_known 57 = .ok (.ifCond .ne 11, 3) := by decide +kernel
theorem dX9_known_60 : decode cX9_known 60 = .ok (.aload_n 0, 1) := by decide +kernel
theorem dX9_known_61 : decode cX9_known 61 = .ok (.iload_n 1, 1) := by decide +kernel
theorem dX9_known_62 : decode cX9_known 62 = .ok (.invokevirtual 146, 3) := by decide +kernel
theorem dX9_known_65 : decode cX9_known 65 = .ok (.ifCond .lt 6, 3) := by decide +kernel
theorem dX9_known_68 : decode cX9_known 68 = .ok (.bipush (-3), 2) := by decide +kernel
theorem dX9_known_70 : decode cX9_known 70 = .ok (.ireturn, 1) := by decide +kernel
theorem dX9_known_71 : decode cX9_known 71 = .ok (.aload_n 0, 1) := by decide +kernel
theorem dX9_known_72 : decode cX9_known 72 = .ok (.getfield 31, 3) := by decide +kernel
theorem dX9_known_75 : decode cX9_known 75 = .ok (.iload_n 1, 1) := by decide +kernel
theorem dX9_known_76 : decode cX9_known 76 = .ok (.iload_n 2, 1) := by decide +kernel
theorem dX9_known_77 : decode cX9_known 77 = .ok (.iastore, 1) := by decide +kernel
theorem dX9_known_78 : decode cX9_known 78 = .ok (.iconst 1, 1) := by decide +kernel
theorem dX9_known_79 : decode cX9_known 79 = .ok (.ireturn, 1) := by decide +kernel
theorem dX9_settle_0 : decode cX9_settle 0 = .ok (.aload_n 0, 1) := by decide +kernel
theorem dX9_settle_1 : decode cX9_settle 1 = .ok (.iload_n 1, 1) := by decide +kernel
theorem dX9_settle_2 : decode cX9_settle 2 = .ok (.iload_n 2, 1) := by decide +kernel
theorem dX9_settle_3 : decode cX9_settle 3 = .ok (.invokevirtual 142, 3) := by decide +kernel
theorem dX9_settle_6 : decode cX9_settle 6 = .ok (.ifCond .ne 5, 3) := by decide +kernel
theorem dX9_settle_9 : decode cX9_settle 9 = .ok (.iconst (-1), 1) := by decide +kernel
theorem dX9_settle_10 : decode cX9_settle 10 = .ok (.ireturn, 1) := by decide +kernel
theorem dX9_settle_11 : decode cX9_settle 11 = .ok (.aload_n 0, 1) := by decide +kernel
theorem dX9_settle_12 : decode cX9_settle 12 = .ok (.getfield 31, 3) := by decide +kernel
theorem dX9_settle_15 : decode cX9_settle 15 = .ok (.iload_n 1, 1) := by decide +kernel
theorem dX9_settle_16 : decode cX9_settle 16 = .ok (.iaload, 1) := by decide +kernel
theorem dX9_settle_17 : decode cX9_settle 17 = .ok (.ifCond .lt 6, 3) := by decide +kernel
theorem dX9_settle_20 : decode cX9_settle 20 = .ok (.bipush (-3), 2) := by decide +kernel
theorem dX9_settle_22 : decode cX9_settle 22 = .ok (.ireturn, 1) := by decide +kernel
theorem dX9_settle_23 : decode cX9_settle 23 = .ok (.aload_n 0, 1) := by decide +kernel
theorem dX9_settle_24 : decode cX9_settle 24 = .ok (.getfield 34, 3) := by decide +kernel
theorem dX9_settle_27 : decode cX9_settle 27 = .ok (.iload_n 1, 1) := by decide +kernel
theorem dX9_settle_28 : decode cX9_settle 28 = .ok (.iaload, 1) := by decide +kernel
theorem dX9_settle_29 : decode cX9_settle 29 = .ok (.istore_n 3, 1) := by decide +kernel
theorem dX9_settle_30 : decode cX9_settle 30 = .ok (.aload_n 0, 1) := by decide +kernel
theorem dX9_settle_31 : decode cX9_settle 31 = .ok (.getfield 34, 3) := by decide +kernel
theorem dX9_settle_34 : decode cX9_settle 34 = .ok (.iload_n 1, 1) := by decide +kernel
theorem dX9_settle_35 : decode cX9_settle 35 = .ok (.iload_n 2, 1) := by decide +kernel
theorem dX9_settle_36 : decode cX9_settle 36 = .ok (.iastore, 1) := by decide +kernel
theorem dX9_settle_37 : decode cX9_settle 37 = .ok (.iload_n 3, 1) := by decide +kernel
theorem dX9_settle_38 : decode cX9_settle 38 = .ok (.ireturn, 1) := by decide +kernel
theorem dX9_show_0 : decode cX9_show 0 = .ok (.aload_n 0, 1) := by decide +kernel
theorem dX9_show_1 : decode cX9_show 1 = .ok (.iload_n 1, 1) := by decide +kernel
theorem dX9_show_2 : decode cX9_show 2 = .ok (.invokevirtual 134, 3) := by decide +kernel
theorem dX9_show_5 : decode cX9_show 5 = .ok (.ifCond .ne 5, 3) := by decide +kernel
theorem dX9_show_8 : decode cX9_show 8 = .ok (.iconst (-1), 1) := by decide +kernel
theorem dX9_show_9 : decode cX9_show 9 = .ok (.ireturn, 1) := by decide +kernel
theorem dX9_show_10 : decode cX9_show 10 = .ok (.iload_n 2, 1) := by decide +kernel
theorem dX9_show_11 : decode cX9_show 11 = .ok (.iconst 0, 1) := by decide +kernel
theorem dX9_show_12 : decode cX9_show 12 = .ok (.bipush 15, 2) := by decide +kernel
theorem dX9_show_14 : decode cX9_show 14 = .ok (.invokestatic 93, 3) := by decide +kernel
theorem dX9_show_17 : decode cX9_show 17 = .ok (.ifCond .ne 6, 3) := by decide +kernel
theorem dX9_show_20 : decode cX9_show 20 = .ok (.bipush (-2), 2) := by decide +kernel
theorem dX9_show_22 : decode cX9_show 22 = .ok (.ireturn, 1) := by decide +kernel
theorem dX9_show_23 : decode cX9_show 23 = .ok (.aload_n 0, 1) := by decide +kernel
theorem dX9_show_24 : decode cX9_show 24 = .ok (.getfield 37, 3) := by decide +kernel
theorem dX9_show_27 : decode cX9_show 27 = .ok (.iload_n 1, 1) := by decide +kernel
theorem dX9_show_28 : decode cX9_show 28 = .ok (.iaload, 1) := by decide +kernel
theorem dX9_show_29 : decode cX9_show 29 = .ok (.istore_n 3, 1) := by decide +kernel
theorem dX9_show_30 : decode cX9_show 30 = .ok (.aload_n 0, 1) := by decide +kernel
theorem dX9_show_31 : decode cX9_show 31 = .ok (.getfield 37, 3) := by decide +kernel
theorem dX9_show_34 : decode cX9_show 34 = .ok (.iload_n 1, 1) := by decide +kernel
theorem dX9_show_35 : decode cX9_show 35 = .ok (.iload_n 2, 1) := by decide +kernel
theorem dX9_show_36 : decode cX9_show 36 = .ok (.iastore, 1) := by decide +kernel
theorem dX9_show_37 : decode cX9_show 37 = .ok (.iload_n 3, 1) := by decide +kernel
theorem dX9_show_38 : decode cX9_show 38 = .ok (.ireturn, 1) := by decide +kernel
theorem dX9_shareOf_0 : decode cX9_shareOf 0 = .ok (.aload_n 0, 1) := by decide +kernel
theorem dX9_shareOf_1 : decode cX9_shareOf 1 = .ok (.iload_n 1, 1) := by decide +kernel
theorem dX9_shareOf_2 : decode cX9_shareOf 2 = .ok (.invokevirtual 146, 3) := by decide +kernel
theorem dX9_shareOf_5 : decode cX9_shareOf 5 = .ok (.istore_n 3, 1) := by decide +kernel
theorem dX9_shareOf_6 : decode cX9_shareOf 6 = .ok (.iload_n 3, 1) := by decide +kernel
theorem dX9_shareOf_7 : decode cX9_shareOf 7 = .ok (.ifCond .lt 17, 3) := by decide +kernel
theorem dX9_shareOf_10 : decode cX9_shareOf 10 = .ok (.iload_n 3, 1) := by decide +kernel
theorem dX9_shareOf_11 : decode cX9_shareOf 11 = .ok (.iload_n 2, 1) := by decide +kernel
theorem dX9_shareOf_12 : decode cX9_shareOf 12 = .ok (.if_icmp .ne 8, 3) := by decide +kernel
theorem dX9_shareOf_15 : decode cX9_shareOf 15 = .ok (.ldc 149, 2) := by decide +kernel
theorem dX9_shareOf_17 : decode cX9_shareOf 17 = .ok (.goto 43, 3) := by decide +kernel
theorem dX9_shareOf_20 : decode cX9_shareOf 20 = .ok (.iconst 0, 1) := by decide +kernel
theorem dX9_shareOf_21 : decode cX9_shareOf 21 = .ok (.goto 39, 3) := by decide +kernel
theorem dX9_shareOf_24 : decode cX9_shareOf 24 = .ok (.aload_n 0, 1) := by decide +kernel
theorem dX9_shareOf_25 : decode cX9_shareOf 25 = .ok (.getfield 121, 3) := by decide +kernel
theorem dX9_shareOf_28 : decode cX9_shareOf 28 = .ok (.ifCond .eq 24, 3) := by decide +kernel
theorem dX9_shareOf_31 : decode cX9_shareOf 31 = .ok (.iload_n 1, 1) := by decide +kernel
theorem dX9_shareOf_32 : decode cX9_shareOf 32 = .ok (.aload_n 0, 1) := by decide +kernel
theorem dX9_shareOf_33 : decode cX9_shareOf 33 = .ok (.getfield 125, 3) := by decide +kernel
theorem dX9_shareOf_36 : decode cX9_shareOf 36 = .ok (.if_icmp .ge 16, 3) := by decide +kernel
theorem dX9_shareOf_39 : decode cX9_shareOf 39 = .ok (.aload_n 0, 1) := by decide +kernel
theorem dX9_shareOf_40 : decode cX9_shareOf 40 = .ok (.getfield 59, 3) := by decide +kernel
theorem dX9_shareOf_43 : decode cX9_shareOf 43 = .ok (.iconst 4, 1) := by decide +kernel
theorem dX9_shareOf_44 : decode cX9_shareOf 44 = .ok (.iload_n 1, 1) := by decide +kernel
theorem dX9_shareOf_45 : decode cX9_shareOf 45 = .ok (.imul, 1) := by decide +kernel
theorem dX9_shareOf_46 : decode cX9_shareOf 46 = .ok (.iload_n 2, 1) := by decide +kernel
theorem dX9_shareOf_47 : decode cX9_shareOf 47 = .ok (.iadd, 1) := by decide +kernel
theorem dX9_shareOf_48 : decode cX9_shareOf 48 = .ok (.iaload, 1) := by decide +kernel
theorem dX9_shareOf_49 : decode cX9_shareOf 49 = .ok (.goto 11, 3) := by decide +kernel
theorem dX9_shareOf_52 : decode cX9_shareOf 52 = .ok (.ldc 149, 2) := by decide +kernel
theorem dX9_shareOf_54 : decode cX9_shareOf 54 = .ok (.aload_n 0, 1) := by decide +kernel
theorem dX9_shareOf_55 : decode cX9_shareOf 55 = .ok (.iload_n 1, 1) := by decide +kernel
theorem dX9_shareOf_56 : decode cX9_shareOf 56 = .ok (.invokevirtual 138, 3) := by decide +kernel
theorem dX9_shareOf_59 : decode cX9_shareOf 59 = .ok (.idiv, 1) := by decide +kernel
theorem dX9_shareOf_60 : decode cX9_shareOf 60 = .ok (.ireturn, 1) := by decide +kernel
theorem dX9_endOf_0 : decode cX9_endOf 0 = .ok (.iconst 0, 1) := by decide +kernel
theorem dX9_endOf_1 : decode cX9_endOf 1 = .ok (.istore_n 2, 1) := by decide +kernel
theorem dX9_endOf_2 : decode cX9_endOf 2 = .ok (.iconst 1, 1) := by decide +kernel
theorem dX9_endOf_3 : decode cX9_endOf 3 = .ok (.istore_n 3, 1) := by decide +kernel
theorem dX9_endOf_4 : decode cX9_endOf 4 = .ok (.iload_n 3, 1) := by decide +kernel
theorem dX9_endOf_5 : decode cX9_endOf 5 = .ok (.aload_n 0, 1) := by decide +kernel
theorem dX9_endOf_6 : decode cX9_endOf 6 = .ok (.iload_n 1, 1) := by decide +kernel
theorem dX9_endOf_7 : decode cX9_endOf 7 = .ok (.invokevirtual 138, 3) := by decide +kernel
theorem dX9_endOf_10 : decode cX9_endOf 10 = .ok (.if_icmp .ge 30, 3) := by decide +kernel
theorem dX9_endOf_13 : decode cX9_endOf 13 = .ok (.aload_n 0, 1) := by decide +kernel
theorem dX9_endOf_14 : decode cX9_endOf 14 = .ok (.iload_n 1, 1) := by decide +kernel
theorem dX9_endOf_15 : decode cX9_endOf 15 = .ok (.iload_n 3, 1) := by decide +kernel
theorem dX9_endOf_16 : decode cX9_endOf 16 = .ok (.invokevirtual 150, 3) := by decide +kernel
theorem dX9_endOf_19 : decode cX9_endOf 19 = .ok (.aload_n 0, 1) := by decide +kernel
theorem dX9_endOf_20 : decode cX9_endOf 20 = .ok (.iload_n 1, 1) := by decide +kernel
theorem dX9_endOf_21 : decode cX9_endOf 21 = .ok (.iload_n 2, 1) := by decide +kernel
theorem dX9_endOf_22 : decode cX9_endOf 22 = .ok (.invokevirtual 150, 3) := by decide +kernel
theorem dX9_endOf_25 : decode cX9_endOf 25 = .ok (.if_icmp .le 7, 3) := by decide +kernel
theorem dX9_endOf_28 : decode cX9_endOf 28 = .ok (.iload_n 3, 1) := by decide +kernel
theorem dX9_endOf_29 : decode cX9_endOf 29 = .ok (.goto 4, 3) := by decide +kernel
theorem dX9_endOf_32 : decode cX9_endOf 32 = .ok (.iload_n 2, 1) := by decide +kernel
theorem dX9_endOf_33 : decode cX9_endOf 33 = .ok (.istore_n 2, 1) := by decide +kernel
theorem dX9_endOf_34 : decode cX9_endOf 34 = .ok (.iinc 3 1, 3) := by decide +kernel
theorem dX9_endOf_37 : decode cX9_endOf 37 = .ok (.goto (-33), 3) := by decide +kernel
theorem dX9_endOf_40 : decode cX9_endOf 40 = .ok (.iload_n 2, 1) := by decide +kernel
theorem dX9_endOf_41 : decode cX9_endOf 41 = .ok (.ireturn, 1) := by decide +kernel
theorem dX9_sureOf_0 : decode cX9_sureOf 0 = .ok (.aload_n 0, 1) := by decide +kernel
theorem dX9_sureOf_1 : decode cX9_sureOf 1 = .ok (.iload_n 1, 1) := by decide +kernel
theorem dX9_sureOf_2 : decode cX9_sureOf 2 = .ok (.aload_n 0, 1) := by decide +kernel
theorem dX9_sureOf_3 : decode cX9_sureOf 3 = .ok (.iload_n 1, 1) := by decide +kernel
theorem dX9_sureOf_4 : decode cX9_sureOf 4 = .ok (.invokevirtual 153, 3) := by decide +kernel
theorem dX9_sureOf_7 : decode cX9_sureOf 7 = .ok (.invokevirtual 150, 3) := by decide +kernel
theorem dX9_sureOf_10 : decode cX9_sureOf 10 = .ok (.sipush 1000, 3) := by decide +kernel
theorem dX9_sureOf_13 : decode cX9_sureOf 13 = .ok (.idiv, 1) := by decide +kernel
theorem dX9_sureOf_14 : decode cX9_sureOf 14 = .ok (.ireturn, 1) := by decide +kernel
theorem dX9_isOpen_0 : decode cX9_isOpen 0 = .ok (.iconst 1, 1) := by decide +kernel
theorem dX9_isOpen_1 : decode cX9_isOpen 1 = .ok (.istore_n 2, 1) := by decide +kernel
theorem dX9_isOpen_2 : decode cX9_isOpen 2 = .ok (.iconst 0, 1) := by decide +kernel
theorem dX9_isOpen_3 : decode cX9_isOpen 3 = .ok (.istore_n 3, 1) := by decide +kernel
theorem dX9_isOpen_4 : decode cX9_isOpen 4 = .ok (.iload_n 3, 1) := by decide +kernel
theorem dX9_isOpen_5 : decode cX9_isOpen 5 = .ok (.aload_n 0, 1) := by decide +kernel
theorem dX9_isOpen_6 : decode cX9_isOpen 6 = .ok (.getfield 112, 3) := by decide +kernel
theorem dX9_isOpen_9 : decode cX9_isOpen 9 = .ok (.if_icmp .ge 76, 3) := by decide +kernel
theorem dX9_isOpen_12 : decode cX9_isOpen 12 = .ok (.iload_n 2, 1) := by decide +kernel
theorem dX9_isOpen_13 : decode cX9_isOpen 13 = .ok (.ifCond .eq 72, 3) := by decide +kernel
theorem dX9_isOpen_16 : decode cX9_isOpen 16 = .ok (.aload_n 0, 1) := by decide +kernel
theorem dX9_isOpen_17 : decode cX9_isOpen 17 = .ok (.getfield 19, 3) := by decide +kernel
theorem dX9_isOpen_20 : decode cX9_isOpen 20 = .ok (.aload_n 0, 1) := by decide +kernel
theorem dX9_isOpen_21 : decode cX9_isOpen 21 = .ok (.getfield 25, 3) := by decide +kernel
theorem dX9_isOpen_24 : decode cX9_isOpen 24 = .ok (.iload_n 1, 1) := by decide +kernel
theorem dX9_isOpen_25 : decode cX9_isOpen 25 = .ok (.iaload, 1) := by decide +kernel
theorem dX9_isOpen_26 : decode cX9_isOpen 26 = .ok (.iaload, 1) := by decide +kernel
theorem dX9_isOpen_27 : decode cX9_isOpen 27 = .ok (.iload_n 3, 1) := by decide +kernel
theorem dX9_isOpen_28 : decode cX9_isOpen 28 = .ok (.ishr, 1) := by decide +kernel
theorem dX9_isOpen_29 : decode cX9_isOpen 29 = .ok (.iconst 1, 1) := by decide +kernel
theorem dX9_isOpen_30 : decode cX9_isOpen 30 = .ok (.iand, 1) := by decide +kernel
theorem dX9_isOpen_31 : decode cX9_isOpen 31 = .ok (.iconst 1, 1) := by decide +kernel
theorem dX9_isOpen_32 : decode cX9_isOpen 32 = .ok (.if_icmp .ne 47, 3) := by decide +kernel
theorem dX9_isOpen_35 : decode cX9_isOpen 35 = .ok (.aload_n 0, 1) := by decide +kernel
theorem dX9_isOpen_36 : decode cX9_isOpen 36 = .ok (.iload_n 3, 1) := by decide +kernel
theorem dX9_isOpen_37 : decode cX9_isOpen 37 = .ok (.aload_n 0, 1) := by decide +kernel
theorem dX9_isOpen_38 : decode cX9_isOpen 38 = .ok (.getfield 28, 3) := by decide +kernel
theorem dX9_isOpen_41 : decode cX9_isOpen 41 = .ok (.iload_n 1, 1) := by decide +kernel
theorem dX9_isOpen_42 : decode cX9_isOpen 42 = .ok (.iaload, 1) := by decide +kernel
theorem dX9_isOpen_43 : decode cX9_isOpen 43 = .ok (.invokevirtual 131, 3) := by decide +kernel
theorem dX9_isOpen_46 : decode cX9_isOpen 46 = .ok (.istore 4, 2) := by decide +kernel
theorem dX9_isOpen_48 : decode cX9_isOpen 48 = .ok (.iload 4, 2) := by decide +kernel
theorem dX9_isOpen_50 : decode cX9_isOpen 50 = .ok (.ifCond .lt 27, 3) := by decide +kernel
theorem dX9_isOpen_53 : decode cX9_isOpen 53 = .ok (.aload_n 0, 1) := by decide +kernel
theorem dX9_isOpen_54 : decode cX9_isOpen 54 = .ok (.iload 4, 2) := by decide +kernel
theorem dX9_isOpen_56 : decode cX9_isOpen 56 = .ok (.invokevirtual 156, 3) := by decide +kernel
theorem dX9_isOpen_59 : decode cX9_isOpen 59 = .ok (.aload_n 0, 1) := by decide +kernel
theorem dX9_isOpen_60 : decode cX9_isOpen 60 = .ok (.getfield 22, 3) := by decide +kernel
theorem dX9_isOpen_63 : decode cX9_isOpen 63 = .ok (.aload_n 0, 1) := by decide +kernel
theorem dX9_isOpen_64 : decode cX9_isOpen 64 = .ok (.getfield 25, 3) := by decide +kernel
theorem dX9_isOpen_67 : decode cX9_isOpen 67 = .ok (.iload_n 1, 1) := by decide +kernel
theorem dX9_isOpen_68 : decode cX9_isOpen 68 = .ok (.iaload, 1) := by decide +kernel
theorem dX9_isOpen_69 : decode cX9_isOpen 69 = .ok (.iaload, 1) := by decide +kernel
theorem dX9_isOpen_70 : decode cX9_isOpen 70 = .ok (.if_icmp .lt 7, 3) := by decide +kernel
theorem dX9_isOpen_73 : decode cX9_isOpen 73 = .ok (.iconst 1, 1) := by decide +kernel
theorem dX9_isOpen_74 : decode cX9_isOpen 74 = .ok (.goto 4, 3) := by decide +kernel
theorem dX9_isOpen_77 : decode cX9_isOpen 77 = .ok (.iconst 0, 1) := by decide +kernel
theorem dX9_isOpen_78 : decode cX9_isOpen 78 = .ok (.istore_n 2, 1) := by decide +kernel
theorem dX9_isOpen_79 : decode cX9_isOpen 79 = .ok (.iinc 3 1, 3) := by decide +kernel
theorem dX9_isOpen_82 : decode cX9_isOpen 82 = .ok (.goto (-78), 3) := by decide +kernel
theorem dX9_isOpen_85 : decode cX9_isOpen 85 = .ok (.iload_n 2, 1) := by decide +kernel
theorem dX9_isOpen_86 : decode cX9_isOpen 86 = .ok (.ireturn, 1) := by decide +kernel
theorem dX9_counts_0 : decode cX9_counts 0 = .ok (.aload_n 0, 1) := by decide +kernel
theorem dX9_counts_1 : decode cX9_counts 1 = .ok (.getfield 40, 3) := by decide +kernel
theorem dX9_counts_4 : decode cX9_counts 4 = .ok (.iload_n 1, 1) := by decide +kernel
theorem dX9_counts_5 : decode cX9_counts 5 = .ok (.baload, 1) := by decide +kernel
theorem dX9_counts_6 : decode cX9_counts 6 = .ok (.ifCond .ne 21, 3) := by decide +kernel
theorem dX9_counts_9 : decode cX9_counts 9 = .ok (.aload_n 0, 1) := by decide +kernel
theorem dX9_counts_10 : decode cX9_counts 10 = .ok (.getfield 47, 3) := by decide +kernel
theorem dX9_counts_13 : decode cX9_counts 13 = .ok (.bipush 24, 2) := by decide +kernel
theorem dX9_counts_15 : decode cX9_counts 15 = .ok (.iload_n 1, 1) := by decide +kernel
theorem dX9_counts_16 : decode cX9_counts 16 = .ok (.imul, 1) := by decide +kernel
theorem dX9_counts_17 : decode cX9_counts 17 = .ok (.iload_n 2, 1) := by decide +kernel
theorem dX9_counts_18 : decode cX9_counts 18 = .ok (.iadd, 1) := by decide +kernel
theorem dX9_counts_19 : decode cX9_counts 19 = .ok (.iaload, 1) := by decide +kernel
theorem dX9_counts_20 : decode cX9_counts 20 = .ok (.ifCond .le 7, 3) := by decide +kernel
theorem dX9_counts_23 : decode cX9_counts 23 = .ok (.iconst 1, 1) := by decide +kernel
theorem dX9_counts_24 : decode cX9_counts 24 = .ok (.goto 4, 3) := by decide +kernel
theorem dX9_counts_27 : decode cX9_counts 27 = .ok (.iconst 0, 1) := by decide +kernel
theorem dX9_counts_28 : decode cX9_counts 28 = .ok (.ireturn, 1) := by decide +kernel
theorem dX9_countOf_0 : decode cX9_countOf 0 = .ok (.iconst 0, 1) := by decide +kernel
theorem dX9_countOf_1 : decode cX9_countOf 1 = .ok (.istore_n 2, 1) := by decide +kernel
theorem dX9_countOf_2 : decode cX9_countOf 2 = .ok (.iconst 0, 1) := by decide +kernel
theorem dX9_countOf_3 : decode cX9_countOf 3 = .ok (.istore_n 3, 1) := by decide +kernel
theorem dX9_countOf_4 : decode cX9_countOf 4 = .ok (.iload_n 3, 1) := by decide +kernel
theorem dX9_countOf_5 : decode cX9_countOf 5 = .ok (.aload_n 0, 1) := by decide +kernel
theorem dX9_countOf_6 : decode cX9_countOf 6 = .ok (.getfield 118, 3) := by decide +kernel
theorem dX9_countOf_9 : decode cX9_countOf 9 = .ok (.if_icmp .ge 26, 3) := by decide +kernel
theorem dX9_countOf_12 : decode cX9_countOf 12 = .ok (.iload_n 2, 1) := by decide +kernel
theorem dX9_countOf_13 : decode cX9_countOf 13 = .ok (.aload_n 0, 1) := by decide +kernel
theorem dX9_countOf_14 : decode cX9_countOf 14 = .ok (.iload_n 3, 1) := by decide +kernel
theorem dX9_countOf_15 : decode cX9_countOf 15 = .ok (.iload_n 1, 1) := by decide +kernel
theorem dX9_countOf_16 : decode cX9_countOf 16 = .ok (.invokevirtual 159, 3) := by decide +kernel
theorem dX9_countOf_19 : decode cX9_countOf 19 = .ok (.ifCond .eq 7, 3) := by decide +kernel
theorem dX9_countOf_22 : decode cX9_countOf 22 = .ok (.iconst 1, 1) := by decide +kernel
theorem dX9_countOf_23 : decode cX9_countOf 23 = .ok (.goto 4, 3) := by decide +kernel
theorem dX9_countOf_26 : decode cX9_countOf 26 = .ok (.iconst 0, 1) := by decide +kernel
theorem dX9_countOf_27 : decode cX9_countOf 27 = .ok (.iadd, 1) := by decide +kernel
theorem dX9_countOf_28 : decode cX9_countOf 28 = .ok (.istore_n 2, 1) := by decide +kernel
theorem dX9_countOf_29 : decode cX9_countOf 29 = .ok (.iinc 3 1, 3) := by decide +kernel
theorem dX9_countOf_32 : decode cX9_countOf 32 = .ok (.goto (-28), 3) := by decide +kernel
theorem dX9_countOf_35 : decode cX9_countOf 35 = .ok (.iload_n 2, 1) := by decide +kernel
theorem dX9_countOf_36 : decode cX9_countOf 36 = .ok (.ireturn, 1) := by decide +kernel
theorem dX9_ofItem_0 : decode cX9_ofItem 0 = .ok (.aload_n 0, 1) := by decide +kernel
theorem dX9_ofItem_1 : decode cX9_ofItem 1 = .ok (.iload_n 1, 1) := by decide +kernel
theorem dX9_ofItem_2 : decode cX9_ofItem 2 = .ok (.invokevirtual 134, 3) := by decide +kernel
theorem dX9_ofItem_5 : decode cX9_ofItem 5 = .ok (.ifCond .ne 5, 3) := by decide +kernel
theorem dX9_ofItem_8 : decode cX9_ofItem 8 = .ok (.iconst (-1), 1) := by decide +kernel
theorem dX9_ofItem_9 : decode cX9_ofItem 9 = .ok (.ireturn, 1) := by decide +kernel
theorem dX9_ofItem_10 : decode cX9_ofItem 10 = .ok (.iload_n 2, 1) := by decide +kernel
theorem dX9_ofItem_11 : decode cX9_ofItem 11 = .ok (.tableswitch 126 0 9 #[53, 60, 67, 73, 80, 87, 101, 107, 113, 119], 53) := by decide +kernel
theorem dX9_ofItem_64 : decode cX9_ofItem 64 = .ok (.aload_n 0, 1) := by decide +kernel
theorem dX9_ofItem_65 : decode cX9_ofItem 65 = .ok (.getfield 25, 3) := by decide +kernel
theorem dX9_ofItem_68 : decode cX9_ofItem 68 = .ok (.iload_n 1, 1) := by decide +kernel
theorem dX9_ofItem_69 : decode cX9_ofItem 69 = .ok (.iaload, 1) := by decide +kernel
theorem dX9_ofItem_70 : decode cX9_ofItem 70 = .ok (.ireturn, 1) := by decide +kernel
theorem dX9_ofItem_71 : decode cX9_ofItem 71 = .ok (.aload_n 0, 1) := by decide +kernel
theorem dX9_ofItem_72 : decode cX9_ofItem 72 = .ok (.getfield 28, 3) := by decide +kernel
theorem dX9_ofItem_75 : decode cX9_ofItem 75 = .ok (.iload_n 1, 1) := by decide +kernel
theorem dX9_ofItem_76 : decode cX9_ofItem 76 = .ok (.iaload, 1) := by decide +kernel
theorem dX9_ofItem_77 : decode cX9_ofItem 77 = .ok (.ireturn, 1) := by decide +kernel
theorem dX9_ofItem_78 : decode cX9_ofItem 78 = .ok (.aload_n 0, 1) := by decide +kernel
theorem dX9_ofItem_79 : decode cX9_ofItem 79 = .ok (.iload_n 1, 1) := by decide +kernel
theorem dX9_ofItem_80 : decode cX9_ofItem 80 = .ok (.invokevirtual 138, 3) := by decide +kernel
theorem dX9_ofItem_83 : decode cX9_ofItem 83 = .ok (.ireturn, 1) := by decide +kernel
theorem dX9_ofItem_84 : decode cX9_ofItem 84 = .ok (.aload_n 0, 1) := by decide +kernel
theorem dX9_ofItem_85 : decode cX9_ofItem 85 = .ok (.getfield 31, 3) := by decide +kernel
theorem dX9_ofItem_88 : decode cX9_ofItem 88 = .ok (.iload_n 1, 1) := by decide +kernel
theorem dX9_ofItem_89 : decode cX9_ofItem 89 = .ok (.iaload, 1) := by decide +kernel
theorem dX9_ofItem_90 : decode cX9_ofItem 90 = .ok (.ireturn, 1) := by decide +kernel
theorem dX9_ofItem_91 : decode cX9_ofItem 91 = .ok (.aload_n 0, 1) := by decide +kernel
theorem dX9_ofItem_92 : decode cX9_ofItem 92 = .ok (.getfield 34, 3) := by decide +kernel
theorem dX9_ofItem_95 : decode cX9_ofItem 95 = .ok (.iload_n 1, 1) := by decide +kernel
theorem dX9_ofItem_96 : decode cX9_ofItem 96 = .ok (.iaload, 1) := by decide +kernel
theorem dX9_ofItem_97 : decode cX9_ofItem 97 = .ok (.ireturn, 1) := by decide +kernel
theorem dX9_ofItem_98 : decode cX9_ofItem 98 = .ok (.aload_n 0, 1) := by decide +kernel
theorem dX9_ofItem_99 : decode cX9_ofItem 99 = .ok (.iload_n 1, 1) := by decide +kernel
theorem dX9_ofItem_100 : decode cX9_ofItem 100 = .ok (.invokevirtual 162, 3) := by decide +kernel
theorem dX9_ofItem_103 : decode cX9_ofItem 103 = .ok (.ifCond .eq 7, 3) := by decide +kernel
theorem dX9_ofItem_106 : decode cX9_ofItem 106 = .ok (.iconst 1, 1) := by decide +kernel
theorem dX9_ofItem_107 : decode cX9_ofItem 107 = .ok (.goto 4, 3) := by decide +kernel
theorem dX9_ofItem_110 : decode cX9_ofItem 110 = .ok (.iconst 0, 1) := by decide +kernel
theorem dX9_ofItem_111 : decode cX9_ofItem 111 = .ok (.ireturn, 1) := by decide +kernel
theorem dX9_ofItem_112 : decode cX9_ofItem 112 = .ok (.aload_n 0, 1) := by decide +kernel
theorem dX9_ofItem_113 : decode cX9_ofItem 113 = .ok (.iload_n 1, 1) := by decide +kernel
theorem dX9_ofItem_114 : decode cX9_ofItem 114 = .ok (.invokevirtual 165, 3) := by decide +kernel
theorem dX9_ofItem_117 : decode cX9_ofItem 117 = .ok (.ireturn, 1) := by decide +kernel
theorem dX9_ofItem_118 : decode cX9_ofItem 118 = .ok (.aload_n 0, 1) := by decide +kernel
theorem dX9_ofItem_119 : decode cX9_ofItem 119 = .ok (.iload_n 1, 1) := by decide +kernel
theorem dX9_ofItem_120 : decode cX9_ofItem 120 = .ok (.invokevirtual 153, 3) := by decide +kernel
theorem dX9_ofItem_123 : decode cX9_ofItem 123 = .ok (.ireturn, 1) := by decide +kernel
theorem dX9_ofItem_124 : decode cX9_ofItem 124 = .ok (.aload_n 0, 1) := by decide +kernel
theorem dX9_ofItem_125 : decode cX9_ofItem 125 = .ok (.iload_n 1, 1) := by decide +kernel
theorem dX9_ofItem_126 : decode cX9_ofItem 126 = .ok (.invokevirtual 156, 3) := by decide +kernel
theorem dX9_ofItem_129 : decode cX9_ofItem 129 = .ok (.ireturn, 1) := by decide +kernel
theorem dX9_ofItem_130 : decode cX9_ofItem 130 = .ok (.aload_n 0, 1) := by decide +kernel
theorem dX9_ofItem_131 : decode cX9_ofItem 131 = .ok (.getfield 37, 3) := by decide +kernel
theorem dX9_ofItem_134 : decode cX9_ofItem 134 = .ok (.iload_n 1, 1) := by decide +kernel
theorem dX9_ofItem_135 : decode cX9_ofItem 135 = .ok (.iaload, 1) := by decide +kernel
theorem dX9_ofItem_136 : decode cX9_ofItem 136 = .ok (.ireturn, 1) := by decide +kernel
theorem dX9_ofItem_137 : decode cX9_ofItem 137 = .ok (.bipush (-2), 2) := by decide +kernel
theorem dX9_ofItem_139 : decode cX9_ofItem 139 = .ok (.ireturn, 1) := by decide +kernel
theorem dX9_hand_0 : decode cX9_hand 0 = .ok (.aload_n 0, 1) := by decide +kernel
theorem dX9_hand_1 : decode cX9_hand 1 = .ok (.getfield 118, 3) := by decide +kernel
theorem dX9_hand_4 : decode cX9_hand 4 = .ok (.bipush 10, 2) := by decide +kernel
theorem dX9_hand_6 : decode cX9_hand 6 = .ok (.if_icmp .ne 6, 3) := by decide +kernel
theorem dX9_hand_9 : decode cX9_hand 9 = .ok (.bipush (-4), 2) := by decide +kernel
theorem dX9_hand_11 : decode cX9_hand 11 = .ok (.ireturn, 1) := by decide +kernel
theorem dX9_hand_12 : decode cX9_hand 12 = .ok (.aload_n 0, 1) := by decide +kernel
theorem dX9_hand_13 : decode cX9_hand 13 = .ok (.getfield 40, 3) := by decide +kernel
theorem dX9_hand_16 : decode cX9_hand 16 = .ok (.aload_n 0, 1) := by decide +kernel
theorem dX9_hand_17 : decode cX9_hand 17 = .ok (.getfield 118, 3) := by decide +kernel
theorem dX9_hand_20 : decode cX9_hand 20 = .ok (.iconst 0, 1) := by decide +kernel
theorem dX9_hand_21 : decode cX9_hand 21 = .ok (.bastore, 1) := by decide +kernel
theorem dX9_hand_22 : decode cX9_hand 22 = .ok (.aload_n 0, 1) := by decide +kernel
theorem dX9_hand_23 : decode cX9_hand 23 = .ok (.getfield 44, 3) := by decide +kernel
theorem dX9_hand_26 : decode cX9_hand 26 = .ok (.aload_n 0, 1) := by decide +kernel
theorem dX9_hand_27 : decode cX9_hand 27 = .ok (.getfield 118, 3) := by decide +kernel
theorem dX9_hand_30 : decode cX9_hand 30 = .ok (.iconst 0, 1) := by decide +kernel
theorem dX9_hand_31 : decode cX9_hand 31 = .ok (.iastore, 1) := by decide +kernel
theorem dX9_hand_32 : decode cX9_hand 32 = .ok (.iconst 0, 1) := by decide +kernel
theorem dX9_hand_33 : decode cX9_hand 33 = .ok (.istore_n 1, 1) := by decide +kernel
theorem dX9_hand_34 : decode cX9_hand 34 = .ok (.iload_n 1, 1) := by decide +kernel
theorem dX9_hand_35 : decode cX9_hand 35 = .ok (.bipush 24, 2) := by decide +kernel
theorem dX9_hand_37 : decode cX9_hand 37 = .ok (.if_icmp .ge 24, 3) := by decide +kernel
theorem dX9_hand_40 : decode cX9_hand 40 = .ok (.aload_n 0, 1) := by decide +kernel
theorem dX9_hand_41 : decode cX9_hand 41 = .ok (.getfield 47, 3) := by decide +kernel
theorem dX9_hand_44 : decode cX9_hand 44 = .ok (.bipush 24, 2) := by decide +kernel
theorem dX9_hand_46 : decode cX9_hand 46 = .ok (.aload_n 0, 1) := by decide +kernel
theorem dX9_hand_47 : decode cX9_hand 47 = .ok (.getfield 118, 3) := by decide +kernel
theorem dX9_hand_50 : decode cX9_hand 50 = .ok (.imul, 1) := by decide +kernel
theorem dX9_hand_51 : decode cX9_hand 51 = .ok (.iload_n 1, 1) := by decide +kernel
theorem dX9_hand_52 : decode cX9_hand 52 = .ok (.iadd, 1) := by decide +kernel
theorem dX9_hand_53 : decode cX9_hand 53 = .ok (.iconst 0, 1) := by decide +kernel
theorem dX9_hand_54 : decode cX9_hand 54 = .ok (.iastore, 1) := by decide +kernel
theorem dX9_hand_55 : decode cX9_hand 55 = .ok (.iinc 1 1, 3) := by decide +kernel
theorem dX9_hand_58 : decode cX9_hand 58 = .ok (.goto (-24), 3) := by decide +kernel
theorem dX9_hand_61 : decode cX9_hand 61 = .ok (.aload_n 0, 1) := by decide +kernel
theorem dX9_hand_62 : decode cX9_hand 62 = .ok (.dup, 1) := by decide +kernel
theorem dX9_hand_63 : decode cX9_hand 63 = .ok (.getfield 118, 3) := by decide +kernel
theorem dX9_hand_66 : decode cX9_hand 66 = .ok (.iconst 1, 1) := by decide +kernel
theorem dX9_hand_67 : decode cX9_hand 67 = .ok (.iadd, 1) := by decide +kernel
theorem dX9_hand_68 : decode cX9_hand 68 = .ok (.putfield 118, 3) := by decide +kernel
theorem dX9_hand_71 : decode cX9_hand 71 = .ok (.aload_n 0, 1) := by decide +kernel
theorem dX9_hand_72 : decode cX9_hand 72 = .ok (.getfield 118, 3) := by decide +kernel
theorem dX9_hand_75 : decode cX9_hand 75 = .ok (.iconst 1, 1) := by decide +kernel
theorem dX9_hand_76 : decode cX9_hand 76 = .ok (.isub, 1) := by decide +kernel
theorem dX9_hand_77 : decode cX9_hand 77 = .ok (.ireturn, 1) := by decide +kernel
theorem dX9_out_0 : decode cX9_out 0 = .ok (.aload_n 0, 1) := by decide +kernel
theorem dX9_out_1 : decode cX9_out 1 = .ok (.iload_n 1, 1) := by decide +kernel
theorem dX9_out_2 : decode cX9_out 2 = .ok (.invokevirtual 168, 3) := by decide +kernel
theorem dX9_out_5 : decode cX9_out 5 = .ok (.ifCond .ne 5, 3) := by decide +kernel
theorem dX9_out_8 : decode cX9_out 8 = .ok (.iconst (-1), 1) := by decide +kernel
theorem dX9_out_9 : decode cX9_out 9 = .ok (.ireturn, 1) := by decide +kernel
theorem dX9_out_10 : decode cX9_out 10 = .ok (.aload_n 0, 1) := by decide +kernel
theorem dX9_out_11 : decode cX9_out 11 = .ok (.getfield 40, 3) := by decide +kernel
theorem dX9_out_14 : decode cX9_out 14 = .ok (.iload_n 1, 1) := by decide +kernel
theorem dX9_out_15 : decode cX9_out 15 = .ok (.baload, 1) := by decide +kernel
theorem dX9_out_16 : decode cX9_out 16 = .ok (.ifCond .eq 7, 3) := by decide +kernel
theorem dX9_out_19 : decode cX9_out 19 = .ok (.iconst 1, 1) := by decide +kernel
theorem dX9_out_20 : decode cX9_out 20 = .ok (.goto 4, 3) := by decide +kernel
theorem dX9_out_23 : decode cX9_out 23 = .ok (.iconst 0, 1) := by decide +kernel
theorem dX9_out_24 : decode cX9_out 24 = .ok (.istore_n 3, 1) := by decide +kernel
theorem dX9_out_25 : decode cX9_out 25 = .ok (.aload_n 0, 1) := by decide +kernel
theorem dX9_out_26 : decode cX9_out 26 = .ok (.getfield 40, 3) := by decide +kernel
theorem dX9_out_29 : decode cX9_out 29 = .ok (.iload_n 1, 1) := by decide +kernel
theorem dX9_out_30 : decode cX9_out 30 = .ok (.iload_n 2, 1) := by decide +kernel
theorem dX9_out_31 : decode cX9_out 31 = .ok (.bastore, 1) := by decide +kernel
theorem dX9_out_32 : decode cX9_out 32 = .ok (.iload_n 3, 1) := by decide +kernel
theorem dX9_out_33 : decode cX9_out 33 = .ok (.ireturn, 1) := by decide +kernel
theorem dX9_answer_0 : decode cX9_answer 0 = .ok (.aload_n 0, 1) := by decide +kernel
theorem dX9_answer_1 : decode cX9_answer 1 = .ok (.iload_n 1, 1) := by decide +kernel
theorem dX9_answer_2 : decode cX9_answer 2 = .ok (.invokevirtual 168, 3) := by decide +kernel
theorem dX9_answer_5 : decode cX9_answer 5 = .ok (.ifCond .eq 12, 3) := by decide +kernel
theorem dX9_answer_8 : decode cX9_answer 8 = .ok (.aload_n 0, 1) := by decide +kernel
theorem dX9_answer_9 : decode cX9_answer 9 = .ok (.iload_n 2, 1) := by decide +kernel
theorem dX9_answer_10 : decode cX9_answer 10 = .ok (.iload_n 3, 1) := by decide +kernel
theorem dX9_answer_11 : decode cX9_answer 11 = .ok (.invokevirtual 142, 3) := by decide +kernel
theorem dX9_answer_14 : decode cX9_answer 14 = .ok (.ifCond .ne 5, 3) := by decide +kernel
theorem dX9_answer_17 : decode cX9_answer 17 = .ok (.iconst (-1), 1) := by decide +kernel
theorem dX9_answer_18 : decode cX9_answer 18 = .ok (.ireturn, 1) := by decide +kernel
theorem dX9_answer_19 : decode cX9_answer 19 = .ok (.aload_n 0, 1) := by decide +kernel
theorem dX9_answer_20 : decode cX9_answer 20 = .ok (.iload_n 2, 1) := by decide +kernel
theorem dX9_answer_21 : decode cX9_answer 21 = .ok (.invokevirtual 162, 3) := by decide +kernel
theorem dX9_answer_24 : decode cX9_answer 24 = .ok (.ifCond .eq 12, 3) := by decide +kernel
theorem dX9_answer_27 : decode cX9_answer 27 = .ok (.aload_n 0, 1) := by decide +kernel
theorem dX9_answer_28 : decode cX9_answer 28 = .ok (.getfield 40, 3) := by decide +kernel
theorem dX9_answer_31 : decode cX9_answer 31 = .ok (.iload_n 1, 1) := by decide +kernel
theorem dX9_answer_32 : decode cX9_answer 32 = .ok (.baload, 1) := by decide +kernel
theorem dX9_answer_33 : decode cX9_answer 33 = .ok (.ifCond .eq 6, 3) := by decide +kernel
theorem dX9_answer_36 : decode cX9_answer 36 = .ok (.bipush (-3), 2) := by decide +kernel
theorem dX9_answer_38 : decode cX9_answer 38 = .ok (.ireturn, 1) := by decide +kernel
theorem dX9_answer_39 : decode cX9_answer 39 = .ok (.aload_n 0, 1) := by decide +kernel
theorem dX9_answer_40 : decode cX9_answer 40 = .ok (.getfield 47, 3) := by decide +kernel
theorem dX9_answer_43 : decode cX9_answer 43 = .ok (.bipush 24, 2) := by decide +kernel
theorem dX9_answer_45 : decode cX9_answer 45 = .ok (.iload_n 1, 1) := by decide +kernel
theorem dX9_answer_46 : decode cX9_answer 46 = .ok (.imul, 1) := by decide +kernel
theorem dX9_answer_47 : decode cX9_answer 47 = .ok (.iload_n 2, 1) := by decide +kernel
theorem dX9_answer_48 : decode cX9_answer 48 = .ok (.iadd, 1) := by decide +kernel
theorem dX9_answer_49 : decode cX9_answer 49 = .ok (.iaload, 1) := by decide +kernel
theorem dX9_answer_50 : decode cX9_answer 50 = .ok (.ifCond .le 6, 3) := by decide +kernel
theorem dX9_answer_53 : decode cX9_answer 53 = .ok (.bipush (-5), 2) := by decide +kernel
theorem dX9_answer_55 : decode cX9_answer 55 = .ok (.ireturn, 1) := by decide +kernel
theorem dX9_answer_56 : decode cX9_answer 56 = .ok (.aload_n 0, 1) := by decide +kernel
theorem dX9_answer_57 : decode cX9_answer 57 = .ok (.getfield 47, 3) := by decide +kernel
theorem dX9_answer_60 : decode cX9_answer 60 = .ok (.bipush 24, 2) := by decide +kernel
theorem dX9_answer_62 : decode cX9_answer 62 = .ok (.iload_n 1, 1) := by decide +kernel
theorem dX9_answer_63 : decode cX9_answer 63 = .ok (.imul, 1) := by decide +kernel
theorem dX9_answer_64 : decode cX9_answer 64 = .ok (.iload_n 2, 1) := by decide +kernel
theorem dX9_answer_65 : decode cX9_answer 65 = .ok (.iadd, 1) := by decide +kernel
theorem dX9_answer_66 : decode cX9_answer 66 = .ok (.iload_n 3, 1) := by decide +kernel
theorem dX9_answer_67 : decode cX9_answer 67 = .ok (.iconst 1, 1) := by decide +kernel
theorem dX9_answer_68 : decode cX9_answer 68 = .ok (.iadd, 1) := by decide +kernel
theorem dX9_answer_69 : decode cX9_answer 69 = .ok (.iastore, 1) := by decide +kernel
theorem dX9_answer_70 : decode cX9_answer 70 = .ok (.iconst 1, 1) := by decide +kernel
theorem dX9_answer_71 : decode cX9_answer 71 = .ok (.ireturn, 1) := by decide +kernel
theorem dX9_back_0 : decode cX9_back 0 = .ok (.aload_n 0, 1) := by decide +kernel
theorem dX9_back_1 : decode cX9_back 1 = .ok (.iload_n 1, 1) := by decide +kernel
theorem dX9_back_2 : decode cX9_back 2 = .ok (.invokevirtual 168, 3) := by decide +kernel
theorem dX9_back_5 : decode cX9_back 5 = .ok (.ifCond .eq 11, 3) := by decide +kernel
theorem dX9_back_8 : decode cX9_back 8 = .ok (.aload_n 0, 1) := by decide +kernel
theorem dX9_back_9 : decode cX9_back 9 = .ok (.iload_n 2, 1) := by decide +kernel
theorem dX9_back_10 : decode cX9_back 10 = .ok (.invokevirtual 134, 3) := by decide +kernel
theorem dX9_back_13 : decode cX9_back 13 = .ok (.ifCond .ne 5, 3) := by decide +kernel
theorem dX9_back_16 : decode cX9_back 16 = .ok (.iconst (-1), 1) := by decide +kernel
theorem dX9_back_17 : decode cX9_back 17 = .ok (.ireturn, 1) := by decide +kernel
theorem dX9_back_18 : decode cX9_back 18 = .ok (.aload_n 0, 1) := by decide +kernel
theorem dX9_back_19 : decode cX9_back 19 = .ok (.getfield 47, 3) := by decide +kernel
theorem dX9_back_22 : decode cX9_back 22 = .ok (.bipush 24, 2) := by decide +kernel
theorem dX9_back_24 : decode cX9_back 24 = .ok (.iload_n 1, 1) := by decide +kernel
theorem dX9_back_25 : decode cX9_back 25 = .ok (.imul, 1) := by decide +kernel
theorem dX9_back_26 : decode cX9_back 26 = .ok (.iload_n 2, 1) := by decide +kernel
theorem dX9_back_27 : decode cX9_back 27 = .ok (.iadd, 1) := by decide +kernel
theorem dX9_back_28 : decode cX9_back 28 = .ok (.iaload, 1) := by decide +kernel
theorem dX9_back_29 : decode cX9_back 29 = .ok (.istore_n 3, 1) := by decide +kernel
theorem dX9_back_30 : decode cX9_back 30 = .ok (.aload_n 0, 1) := by decide +kernel
theorem dX9_back_31 : decode cX9_back 31 = .ok (.getfield 47, 3) := by decide +kernel
theorem dX9_back_34 : decode cX9_back 34 = .ok (.bipush 24, 2) := by decide +kernel
theorem dX9_back_36 : decode cX9_back 36 = .ok (.iload_n 1, 1) := by decide +kernel
theorem dX9_back_37 : decode cX9_back 37 = .ok (.imul, 1) := by decide +kernel
theorem dX9_back_38 : decode cX9_back 38 = .ok (.iload_n 2, 1) := by decide +kernel
theorem dX9_back_39 : decode cX9_back 39 = .ok (.iadd, 1) := by decide +kernel
theorem dX9_back_40 : decode cX9_back 40 = .ok (.iconst 0, 1) := by decide +kernel
theorem dX9_back_41 : decode cX9_back 41 = .ok (.iastore, 1) := by decide +kernel
theorem dX9_back_42 : decode cX9_back 42 = .ok (.iload_n 3, 1) := by decide +kernel
theorem dX9_back_43 : decode cX9_back 43 = .ok (.ifCond .ne 8, 3) := by decide +kernel
theorem dX9_back_46 : decode cX9_back 46 = .ok (.bipush (-5), 2) := by decide +kernel
