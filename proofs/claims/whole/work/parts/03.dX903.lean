theorem dX9_table_46 : decode cX9_table 46 = .ok (.getfield 121, 3) := by decide +kernel
theorem dX9_table_49 : decode cX9_table 49 = .ok (.ifCond .eq 27, 3) := by decide +kernel
theorem dX9_table_52 : decode cX9_table 52 = .ok (.iload_n 1, 1) := by decide +kernel
theorem dX9_table_53 : decode cX9_table 53 = .ok (.aload_n 0, 1) := by decide +kernel
theorem dX9_table_54 : decode cX9_table 54 = .ok (.getfield 128, 3) := by decide +kernel
theorem dX9_table_57 : decode cX9_table 57 = .ok (.if_icmp .ge 19, 3) := by decide +kernel
theorem dX9_table_60 : decode cX9_table 60 = .ok (.aload_n 0, 1) := by decide +kernel
theorem dX9_table_61 : decode cX9_table 61 = .ok (.getfield 62, 3) := by decide +kernel
theorem dX9_table_64 : decode cX9_table 64 = .ok (.iload_n 1, 1) := by decide +kernel
theorem dX9_table_65 : decode cX9_table 65 = .ok (.iload_n 2, 1) := by decide +kernel
theorem dX9_table_66 : decode cX9_table 66 = .ok (.iload_n 3, 1) := by decide +kernel
theorem dX9_table_67 : decode cX9_table 67 = .ok (.iload 4, 2) := by decide +kernel
theorem dX9_table_69 : decode cX9_table 69 = .ok (.invokestatic 178, 3) := by decide +kernel
theorem dX9_table_72 : decode cX9_table 72 = .ok (.iaload, 1) := by decide +kernel
theorem dX9_table_73 : decode cX9_table 73 = .ok (.goto 5, 3) := by decide +kernel
theorem dX9_table_76 : decode cX9_table 76 = .ok (.bipush (-6), 2) := by decide +kernel
theorem dX9_table_78 : decode cX9_table 78 = .ok (.ireturn, 1) := by decide +kernel
theorem dX9_helpOf_0 : decode cX9_helpOf 0 = .ok (.aload_n 0, 1) := by decide +kernel
theorem dX9_helpOf_1 : decode cX9_helpOf 1 = .ok (.iload_n 2, 1) := by decide +kernel
theorem dX9_helpOf_2 : decode cX9_helpOf 2 = .ok (.invokevirtual 138, 3) := by decide +kernel
theorem dX9_helpOf_5 : decode cX9_helpOf 5 = .ok (.istore_n 3, 1) := by decide +kernel
theorem dX9_helpOf_6 : decode cX9_helpOf 6 = .ok (.lconst 0, 1) := by decide +kernel
theorem dX9_helpOf_7 : decode cX9_helpOf 7 = .ok (.lstore 4, 2) := by decide +kernel
theorem dX9_helpOf_9 : decode cX9_helpOf 9 = .ok (.iconst 0, 1) := by decide +kernel
theorem dX9_helpOf_10 : decode cX9_helpOf 10 = .ok (.istore 6, 2) := by decide +kernel
theorem dX9_helpOf_12 : decode cX9_helpOf 12 = .ok (.iload 6, 2) := by decide +kernel
theorem dX9_helpOf_14 : decode cX9_helpOf 14 = .ok (.iload_n 3, 1) := by decide +kernel
theorem dX9_helpOf_15 : decode cX9_helpOf 15 = .ok (.if_icmp .ge 77, 3) := by decide +kernel
theorem dX9_helpOf_18 : decode cX9_helpOf 18 = .ok (.lconst 0, 1) := by decide +kernel
theorem dX9_helpOf_19 : decode cX9_helpOf 19 = .ok (.lstore 7, 2) := by decide +kernel
theorem dX9_helpOf_21 : decode cX9_helpOf 21 = .ok (.iconst 0, 1) := by decide +kernel
theorem dX9_helpOf_22 : decode cX9_helpOf 22 = .ok (.istore 9, 2) := by decide +kernel
theorem dX9_helpOf_24 : decode cX9_helpOf 24 = .ok (.iload 9, 2) := by decide +kernel
theorem dX9_helpOf_26 : decode cX9_helpOf 26 = .ok (.iload_n 3, 1) := by decide +kernel
theorem dX9_helpOf_27 : decode cX9_helpOf 27 = .ok (.if_icmp .ge 52, 3) := by decide +kernel
theorem dX9_helpOf_30 : decode cX9_helpOf 30 = .ok (.aload_n 0, 1) := by decide +kernel
theorem dX9_helpOf_31 : decode cX9_helpOf 31 = .ok (.iload_n 2, 1) := by decide +kernel
theorem dX9_helpOf_32 : decode cX9_helpOf 32 = .ok (.iload 9, 2) := by decide +kernel
theorem dX9_helpOf_34 : decode cX9_helpOf 34 = .ok (.invokevirtual 150, 3) := by decide +kernel
theorem dX9_helpOf_37 : decode cX9_helpOf 37 = .ok (.i2l, 1) := by decide +kernel
theorem dX9_helpOf_38 : decode cX9_helpOf 38 = .ok (.aload_n 0, 1) := by decide +kernel
theorem dX9_helpOf_39 : decode cX9_helpOf 39 = .ok (.getfield 62, 3) := by decide +kernel
theorem dX9_helpOf_42 : decode cX9_helpOf 42 = .ok (.iload_n 1, 1) := by decide +kernel
theorem dX9_helpOf_43 : decode cX9_helpOf 43 = .ok (.iload_n 3, 1) := by decide +kernel
theorem dX9_helpOf_44 : decode cX9_helpOf 44 = .ok (.iload 9, 2) := by decide +kernel
theorem dX9_helpOf_46 : decode cX9_helpOf 46 = .ok (.iload 6, 2) := by decide +kernel
theorem dX9_helpOf_48 : decode cX9_helpOf 48 = .ok (.invokestatic 178, 3) := by decide +kernel
theorem dX9_helpOf_51 : decode cX9_helpOf 51 = .ok (.iaload, 1) := by decide +kernel
theorem dX9_helpOf_52 : decode cX9_helpOf 52 = .ok (.i2l, 1) := by decide +kernel
theorem dX9_helpOf_53 : decode cX9_helpOf 53 = .ok (.lmul, 1) := by decide +kernel
theorem dX9_helpOf_54 : decode cX9_helpOf 54 = .ok (.lstore 10, 2) := by decide +kernel
theorem dX9_helpOf_56 : decode cX9_helpOf 56 = .ok (.lload 10, 2) := by decide +kernel
theorem dX9_helpOf_58 : decode cX9_helpOf 58 = .ok (.lload 7, 2) := by decide +kernel
theorem dX9_helpOf_60 : decode cX9_helpOf 60 = .ok (.lcmp, 1) := by decide +kernel
theorem dX9_helpOf_61 : decode cX9_helpOf 61 = .ok (.ifCond .le 8, 3) := by decide +kernel
theorem dX9_helpOf_64 : decode cX9_helpOf 64 = .ok (.lload 10, 2) := by decide +kernel
theorem dX9_helpOf_66 : decode cX9_helpOf 66 = .ok (.goto 5, 3) := by decide +kernel
theorem dX9_helpOf_69 : decode cX9_helpOf 69 = .ok (.lload 7, 2) := by decide +kernel
theorem dX9_helpOf_71 : decode cX9_helpOf 71 = .ok (.lstore 7, 2) := by decide +kernel
theorem dX9_helpOf_73 : decode cX9_helpOf 73 = .ok (.iinc 9 1, 3) := by decide +kernel
theorem dX9_helpOf_76 : decode cX9_helpOf 76 = .ok (.goto (-52), 3) := by decide +kernel
theorem dX9_helpOf_79 : decode cX9_helpOf 79 = .ok (.lload 4, 2) := by decide +kernel
theorem dX9_helpOf_81 : decode cX9_helpOf 81 = .ok (.lload 7, 2) := by decide +kernel
theorem dX9_helpOf_83 : decode cX9_helpOf 83 = .ok (.ladd, 1) := by decide +kernel
theorem dX9_helpOf_84 : decode cX9_helpOf 84 = .ok (.lstore 4, 2) := by decide +kernel
theorem dX9_helpOf_86 : decode cX9_helpOf 86 = .ok (.iinc 6 1, 3) := by decide +kernel
theorem dX9_helpOf_89 : decode cX9_helpOf 89 = .ok (.goto (-77), 3) := by decide +kernel
theorem dX9_helpOf_92 : decode cX9_helpOf 92 = .ok (.lload 4, 2) := by decide +kernel
theorem dX9_helpOf_94 : decode cX9_helpOf 94 = .ok (.ldc2_w 182, 3) := by decide +kernel
theorem dX9_helpOf_97 : decode cX9_helpOf 97 = .ok (.ldiv, 1) := by decide +kernel
theorem dX9_helpOf_98 : decode cX9_helpOf 98 = .ok (.l2i, 1) := by decide +kernel
theorem dX9_helpOf_99 : decode cX9_helpOf 99 = .ok (.aload_n 0, 1) := by decide +kernel
theorem dX9_helpOf_100 : decode cX9_helpOf 100 = .ok (.iload_n 2, 1) := by decide +kernel
theorem dX9_helpOf_101 : decode cX9_helpOf 101 = .ok (.aload_n 0, 1) := by decide +kernel
theorem dX9_helpOf_102 : decode cX9_helpOf 102 = .ok (.iload_n 2, 1) := by decide +kernel
theorem dX9_helpOf_103 : decode cX9_helpOf 103 = .ok (.invokevirtual 153, 3) := by decide +kernel
theorem dX9_helpOf_106 : decode cX9_helpOf 106 = .ok (.invokevirtual 150, 3) := by decide +kernel
theorem dX9_helpOf_109 : decode cX9_helpOf 109 = .ok (.isub, 1) := by decide +kernel
theorem dX9_helpOf_110 : decode cX9_helpOf 110 = .ok (.ireturn, 1) := by decide +kernel
theorem dX9_next_0 : decode cX9_next 0 = .ok (.iload_n 1, 1) := by decide +kernel
theorem dX9_next_1 : decode cX9_next 1 = .ok (.iconst 0, 1) := by decide +kernel
theorem dX9_next_2 : decode cX9_next 2 = .ok (.iconst 2, 1) := by decide +kernel
theorem dX9_next_3 : decode cX9_next 3 = .ok (.invokestatic 93, 3) := by decide +kernel
theorem dX9_next_6 : decode cX9_next 6 = .ok (.ifCond .ne 6, 3) := by decide +kernel
theorem dX9_next_9 : decode cX9_next 9 = .ok (.bipush (-2), 2) := by decide +kernel
theorem dX9_next_11 : decode cX9_next 11 = .ok (.ireturn, 1) := by decide +kernel
theorem dX9_next_12 : decode cX9_next 12 = .ok (.aload_n 0, 1) := by decide +kernel
theorem dX9_next_13 : decode cX9_next 13 = .ok (.getfield 121, 3) := by decide +kernel
theorem dX9_next_16 : decode cX9_next 16 = .ok (.ifCond .eq 14, 3) := by decide +kernel
theorem dX9_next_19 : decode cX9_next 19 = .ok (.aload_n 0, 1) := by decide +kernel
theorem dX9_next_20 : decode cX9_next 20 = .ok (.getfield 128, 3) := by decide +kernel
theorem dX9_next_23 : decode cX9_next 23 = .ok (.aload_n 0, 1) := by decide +kernel
theorem dX9_next_24 : decode cX9_next 24 = .ok (.getfield 118, 3) := by decide +kernel
theorem dX9_next_27 : decode cX9_next 27 = .ok (.if_icmp .ge 6, 3) := by decide +kernel
theorem dX9_next_30 : decode cX9_next 30 = .ok (.bipush (-3), 2) := by decide +kernel
theorem dX9_next_32 : decode cX9_next 32 = .ok (.ireturn, 1) := by decide +kernel
theorem dX9_next_33 : decode cX9_next 33 = .ok (.iconst 0, 1) := by decide +kernel
theorem dX9_next_34 : decode cX9_next 34 = .ok (.istore_n 2, 1) := by decide +kernel
theorem dX9_next_35 : decode cX9_next 35 = .ok (.bipush (-6), 2) := by decide +kernel
theorem dX9_next_37 : decode cX9_next 37 = .ok (.istore_n 3, 1) := by decide +kernel
theorem dX9_next_38 : decode cX9_next 38 = .ok (.bipush (-6), 2) := by decide +kernel
theorem dX9_next_40 : decode cX9_next 40 = .ok (.istore 4, 2) := by decide +kernel
theorem dX9_next_42 : decode cX9_next 42 = .ok (.iconst 0, 1) := by decide +kernel
theorem dX9_next_43 : decode cX9_next 43 = .ok (.istore 5, 2) := by decide +kernel
theorem dX9_next_45 : decode cX9_next 45 = .ok (.iload 5, 2) := by decide +kernel
theorem dX9_next_47 : decode cX9_next 47 = .ok (.aload_n 0, 1) := by decide +kernel
theorem dX9_next_48 : decode cX9_next 48 = .ok (.getfield 115, 3) := by decide +kernel
theorem dX9_next_51 : decode cX9_next 51 = .ok (.if_icmp .ge 101, 3) := by decide +kernel
theorem dX9_next_54 : decode cX9_next 54 = .ok (.iconst 0, 1) := by decide +kernel
theorem dX9_next_55 : decode cX9_next 55 = .ok (.istore 6, 2) := by decide +kernel
theorem dX9_next_57 : decode cX9_next 57 = .ok (.iload 6, 2) := by decide +kernel
theorem dX9_next_59 : decode cX9_next 59 = .ok (.aload_n 0, 1) := by decide +kernel
theorem dX9_next_60 : decode cX9_next 60 = .ok (.getfield 118, 3) := by decide +kernel
theorem dX9_next_63 : decode cX9_next 63 = .ok (.if_icmp .ge 83, 3) := by decide +kernel
theorem dX9_next_66 : decode cX9_next 66 = .ok (.aload_n 0, 1) := by decide +kernel
theorem dX9_next_67 : decode cX9_next 67 = .ok (.iload 5, 2) := by decide +kernel
theorem dX9_next_69 : decode cX9_next 69 = .ok (.invokevirtual 146, 3) := by decide +kernel
theorem dX9_next_72 : decode cX9_next 72 = .ok (.ifCond .ge 74, 3) := by decide +kernel
theorem dX9_next_75 : decode cX9_next 75 = .ok (.aload_n 0, 1) := by decide +kernel
theorem dX9_next_76 : decode cX9_next 76 = .ok (.iload 5, 2) := by decide +kernel
theorem dX9_next_78 : decode cX9_next 78 = .ok (.invokevirtual 162, 3) := by decide +kernel
theorem dX9_next_81 : decode cX9_next 81 = .ok (.ifCond .eq 65, 3) := by decide +kernel
theorem dX9_next_84 : decode cX9_next 84 = .ok (.aload_n 0, 1) := by decide +kernel
theorem dX9_next_85 : decode cX9_next 85 = .ok (.getfield 40, 3) := by decide +kernel
theorem dX9_next_88 : decode cX9_next 88 = .ok (.iload 6, 2) := by decide +kernel
theorem dX9_next_90 : decode cX9_next 90 = .ok (.baload, 1) := by decide +kernel
theorem dX9_next_91 : decode cX9_next 91 = .ok (.ifCond .ne 19, 3) := by decide +kernel
theorem dX9_next_94 : decode cX9_next 94 = .ok (.aload_n 0, 1) := by decide +kernel
theorem dX9_next_95 : decode cX9_next 95 = .ok (.getfield 47, 3) := by decide +kernel
theorem dX9_next_98 : decode cX9_next 98 = .ok (.bipush 24, 2) := by decide +kernel
theorem dX9_next_100 : decode cX9_next 100 = .ok (.iload 6, 2) := by decide +kernel
theorem dX9_next_102 : decode cX9_next 102 = .ok (.imul, 1) := by decide +kernel
theorem dX9_next_103 : decode cX9_next 103 = .ok (.iload 5, 2) := by decide +kernel
theorem dX9_next_105 : decode cX9_next 105 = .ok (.iadd, 1) := by decide +kernel
theorem dX9_next_106 : decode cX9_next 106 = .ok (.iaload, 1) := by decide +kernel
theorem dX9_next_107 : decode cX9_next 107 = .ok (.ifCond .le 7, 3) := by decide +kernel
theorem dX9_next_110 : decode cX9_next 110 = .ok (.iconst 0, 1) := by decide +kernel
theorem dX9_next_111 : decode cX9_next 111 = .ok (.goto 11, 3) := by decide +kernel
theorem dX9_next_114 : decode cX9_next 114 = .ok (.aload_n 0, 1) := by decide +kernel
theorem dX9_next_115 : decode cX9_next 115 = .ok (.iload 6, 2) := by decide +kernel
theorem dX9_next_117 : decode cX9_next 117 = .ok (.iload 5, 2) := by decide +kernel
theorem dX9_next_119 : decode cX9_next 119 = .ok (.invokevirtual 198, 3) := by decide +kernel
theorem dX9_next_122 : decode cX9_next 122 = .ok (.istore 7, 2) := by decide +kernel
theorem dX9_next_124 : decode cX9_next 124 = .ok (.iload 7, 2) := by decide +kernel
theorem dX9_next_126 : decode cX9_next 126 = .ok (.iload_n 2, 1) := by decide +kernel
theorem dX9_next_127 : decode cX9_next 127 = .ok (.if_icmp .le 13, 3) := by decide +kernel
theorem dX9_next_130 : decode cX9_next 130 = .ok (.iload 7, 2) := by decide +kernel
theorem dX9_next_132 : decode cX9_next 132 = .ok (.istore_n 2, 1) := by decide +kernel
theorem dX9_next_133 : decode cX9_next 133 = .ok (.iload 5, 2) := by decide +kernel
theorem dX9_next_135 : decode cX9_next 135 = .ok (.istore_n 3, 1) := by decide +kernel
theorem dX9_next_136 : decode cX9_next 136 = .ok (.iload 6, 2) := by decide +kernel
theorem dX9_next_138 : decode cX9_next 138 = .ok (.istore 4, 2) := by decide +kernel
theorem dX9_next_140 : decode cX9_next 140 = .ok (.iinc 6 1, 3) := by decide +kernel
theorem dX9_next_143 : decode cX9_next 143 = .ok (.goto (-86), 3) := by decide +kernel
theorem dX9_next_146 : decode cX9_next 146 = .ok (.iinc 5 1, 3) := by decide +kernel
theorem dX9_next_149 : decode cX9_next 149 = .ok (.goto (-104), 3) := by decide +kernel
theorem dX9_next_152 : decode cX9_next 152 = .ok (.iload_n 3, 1) := by decide +kernel
theorem dX9_next_153 : decode cX9_next 153 = .ok (.ifCond .ge 8, 3) := by decide +kernel
theorem dX9_next_156 : decode cX9_next 156 = .ok (.bipush (-6), 2) := by decide +kernel
theorem dX9_next_158 : decode cX9_next 158 = .ok (.goto 22, 3) := by decide +kernel
theorem dX9_next_161 : decode cX9_next 161 = .ok (.iload_n 1, 1) := by decide +kernel
theorem dX9_next_162 : decode cX9_next 162 = .ok (.ifCond .ne 7, 3) := by decide +kernel
theorem dX9_next_165 : decode cX9_next 165 = .ok (.iload_n 3, 1) := by decide +kernel
theorem dX9_next_166 : decode cX9_next 166 = .ok (.goto 14, 3) := by decide +kernel
theorem dX9_next_169 : decode cX9_next 169 = .ok (.iload_n 1, 1) := by decide +kernel
theorem dX9_next_170 : decode cX9_next 170 = .ok (.iconst 1, 1) := by decide +kernel
theorem dX9_next_171 : decode cX9_next 171 = .ok (.if_icmp .ne 8, 3) := by decide +kernel
theorem dX9_next_174 : decode cX9_next 174 = .ok (.iload 4, 2) := by decide +kernel
theorem dX9_next_176 : decode cX9_next 176 = .ok (.goto 4, 3) := by decide +kernel
theorem dX9_next_179 : decode cX9_next 179 = .ok (.iload_n 2, 1) := by decide +kernel
theorem dX9_next_180 : decode cX9_next 180 = .ok (.ireturn, 1) := by decide +kernel
theorem dX9_isRight_0 : decode cX9_isRight 0 = .ok (.aload_n 0, 1) := by decide +kernel
theorem dX9_isRight_1 : decode cX9_isRight 1 = .ok (.getfield 47, 3) := by decide +kernel
theorem dX9_isRight_4 : decode cX9_isRight 4 = .ok (.bipush 24, 2) := by decide +kernel
theorem dX9_isRight_6 : decode cX9_isRight 6 = .ok (.iload_n 1, 1) := by decide +kernel
theorem dX9_isRight_7 : decode cX9_isRight 7 = .ok (.imul, 1) := by decide +kernel
theorem dX9_isRight_8 : decode cX9_isRight 8 = .ok (.iload_n 2, 1) := by decide +kernel
theorem dX9_isRight_9 : decode cX9_isRight 9 = .ok (.iadd, 1) := by decide +kernel
theorem dX9_isRight_10 : decode cX9_isRight 10 = .ok (.iaload, 1) := by decide +kernel
theorem dX9_isRight_11 : decode cX9_isRight 11 = .ok (.aload_n 0, 1) := by decide +kernel
theorem dX9_isRight_12 : decode cX9_isRight 12 = .ok (.getfield 31, 3) := by decide +kernel
theorem dX9_isRight_15 : decode cX9_isRight 15 = .ok (.iload_n 2, 1) := by decide +kernel
theorem dX9_isRight_16 : decode cX9_isRight 16 = .ok (.iaload, 1) := by decide +kernel
theorem dX9_isRight_17 : decode cX9_isRight 17 = .ok (.iconst 1, 1) := by decide +kernel
theorem dX9_isRight_18 : decode cX9_isRight 18 = .ok (.iadd, 1) := by decide +kernel
theorem dX9_isRight_19 : decode cX9_isRight 19 = .ok (.if_icmp .ne 7, 3) := by decide +kernel
theorem dX9_isRight_22 : decode cX9_isRight 22 = .ok (.iconst 1, 1) := by decide +kernel
theorem dX9_isRight_23 : decode cX9_isRight 23 = .ok (.goto 4, 3) := by decide +kernel
theorem dX9_isRight_26 : decode cX9_isRight 26 = .ok (.iconst 0, 1) := by decide +kernel
theorem dX9_isRight_27 : decode cX9_isRight 27 = .ok (.ireturn, 1) := by decide +kernel
theorem dX9_knownBy_0 : decode cX9_knownBy 0 = .ok (.iconst 0, 1) := by decide +kernel
theorem dX9_knownBy_1 : decode cX9_knownBy 1 = .ok (.istore_n 2, 1) := by decide +kernel
theorem dX9_knownBy_2 : decode cX9_knownBy 2 = .ok (.iconst 0, 1) := by decide +kernel
theorem dX9_knownBy_3 : decode cX9_knownBy 3 = .ok (.istore_n 3, 1) := by decide +kernel
theorem dX9_knownBy_4 : decode cX9_knownBy 4 = .ok (.iload_n 3, 1) := by decide +kernel
theorem dX9_knownBy_5 : decode cX9_knownBy 5 = .ok (.aload_n 0, 1) := by decide +kernel
theorem dX9_knownBy_6 : decode cX9_knownBy 6 = .ok (.getfield 115, 3) := by decide +kernel
theorem dX9_knownBy_9 : decode cX9_knownBy 9 = .ok (.if_icmp .ge 35, 3) := by decide +kernel
theorem dX9_knownBy_12 : decode cX9_knownBy 12 = .ok (.iload_n 2, 1) := by decide +kernel
theorem dX9_knownBy_13 : decode cX9_knownBy 13 = .ok (.aload_n 0, 1) := by decide +kernel
theorem dX9_knownBy_14 : decode cX9_knownBy 14 = .ok (.getfield 31, 3) := by decide +kernel
theorem dX9_knownBy_17 : decode cX9_knownBy 17 = .ok (.iload_n 3, 1) := by decide +kernel
theorem dX9_knownBy_18 : decode cX9_knownBy 18 = .ok (.iaload, 1) := by decide +kernel
theorem dX9_knownBy_19 : decode cX9_knownBy 19 = .ok (.ifCond .lt 16, 3) := by decide +kernel
theorem dX9_knownBy_22 : decode cX9_knownBy 22 = .ok (.aload_n 0, 1) := by decide +kernel
theorem dX9_knownBy_23 : decode cX9_knownBy 23 = .ok (.iload_n 1, 1) := by decide +kernel
theorem dX9_knownBy_24 : decode cX9_knownBy 24 = .ok (.iload_n 3, 1) := by decide +kernel
theorem dX9_knownBy_25 : decode cX9_knownBy 25 = .ok (.invokevirtual 159, 3) := by decide +kernel
theorem dX9_knownBy_28 : decode cX9_knownBy 28 = .ok (.ifCond .eq 7, 3) := by decide +kernel
theorem dX9_knownBy_31 : decode cX9_knownBy 31 = .ok (.iconst 1, 1) := by decide +kernel
theorem dX9_knownBy_32 : decode cX9_knownBy 32 = .ok (.goto 4, 3) := by decide +kernel
theorem dX9_knownBy_35 : decode cX9_knownBy 35 = .ok (.iconst 0, 1) := by decide +kernel
theorem dX9_knownBy_36 : decode cX9_knownBy 36 = .ok (.iadd, 1) := by decide +kernel
theorem dX9_knownBy_37 : decode cX9_knownBy 37 = .ok (.istore_n 2, 1) := by decide +kernel
theorem dX9_knownBy_38 : decode cX9_knownBy 38 = .ok (.iinc 3 1, 3) := by decide +kernel
theorem dX9_knownBy_41 : decode cX9_knownBy 41 = .ok (.goto (-37), 3) := by decide +kernel
theorem dX9_knownBy_44 : decode cX9_knownBy 44 = .ok (.iload_n 2, 1) := by decide +kernel
theorem dX9_knownBy_45 : decode cX9_knownBy 45 = .ok (.ireturn, 1) := by decide +kernel
theorem dX9_rightBy_0 : decode cX9_rightBy 0 = .ok (.iconst 0, 1) := by decide +kernel
theorem dX9_rightBy_1 : decode cX9_rightBy 1 = .ok (.istore_n 2, 1) := by decide +kernel
theorem dX9_rightBy_2 : decode cX9_rightBy 2 = .ok (.iconst 0, 1) := by decide +kernel
theorem dX9_rightBy_3 : decode cX9_rightBy 3 = .ok (.istore_n 3, 1) := by decide +kernel
theorem dX9_rightBy_4 : decode cX9_rightBy 4 = .ok (.iload_n 3, 1) := by decide +kernel
theorem dX9_rightBy_5 : decode cX9_rightBy 5 = .ok (.aload_n 0, 1) := by decide +kernel
theorem dX9_rightBy_6 : decode cX9_rightBy 6 = .ok (.getfield 115, 3) := by decide +kernel
theorem dX9_rightBy_9 : decode cX9_rightBy 9 = .ok (.if_icmp .ge 44, 3) := by decide +kernel
theorem dX9_rightBy_12 : decode cX9_rightBy 12 = .ok (.iload_n 2, 1) := by decide +kernel
theorem dX9_rightBy_13 : decode cX9_rightBy 13 = .ok (.aload_n 0, 1) := by decide +kernel
theorem dX9_rightBy_14 : decode cX9_rightBy 14 = .ok (.getfield 31, 3) := by decide +kernel
theorem dX9_rightBy_17 : decode cX9_rightBy 17 = .ok (.iload_n 3, 1) := by decide +kernel
theorem dX9_rightBy_18 : decode cX9_rightBy 18 = .ok (.iaload, 1) := by decide +kernel
theorem dX9_rightBy_19 : decode cX9_rightBy 19 = .ok (.ifCond .lt 25, 3) := by decide +kernel
theorem dX9_rightBy_22 : decode cX9_rightBy 22 = .ok (.aload_n 0, 1) := by decide +kernel
theorem dX9_rightBy_23 : decode cX9_rightBy 23 = .ok (.iload_n 1, 1) := by decide +kernel
theorem dX9_rightBy_24 : decode cX9_rightBy 24 = .ok (.iload_n 3, 1) := by decide +kernel
theorem dX9_rightBy_25 : decode cX9_rightBy 25 = .ok (.invokevirtual 159, 3) := by decide +kernel
theorem dX9_rightBy_28 : decode cX9_rightBy 28 = .ok (.ifCond .eq 16, 3) := by decide +kernel
theorem dX9_rightBy_31 : decode cX9_rightBy 31 = .ok (.aload_n 0, 1) := by decide +kernel
theorem dX9_rightBy_32 : decode cX9_rightBy 32 = .ok (.iload_n 1, 1) := by decide +kernel
theorem dX9_rightBy_33 : decode cX9_rightBy 33 = .ok (.iload_n 3, 1) := by decide +kernel
theorem dX9_rightBy_34 : decode cX9_rightBy 34 = .ok (.invokevirtual 201, 3) := by decide +kernel
theorem dX9_rightBy_37 : decode cX9_rightBy 37 = .ok (.ifCond .eq 7, 3) := by decide +kernel
theorem dX9_rightBy_40 : decode cX9_rightBy 40 = .ok (.iconst 1, 1) := by decide +kernel
theorem dX9_rightBy_41 : decode cX9_rightBy 41 = .ok (.goto 4, 3) := by decide +kernel
theorem dX9_rightBy_44 : decode cX9_rightBy 44 = .ok (.iconst 0, 1) := by decide +kernel
theorem dX9_rightBy_45 : decode cX9_rightBy 45 = .ok (.iadd, 1) := by decide +kernel
theorem dX9_rightBy_46 : decode cX9_rightBy 46 = .ok (.istore_n 2, 1) := by decide +kernel
theorem dX9_rightBy_47 : decode cX9_rightBy 47 = .ok (.iinc 3 1, 3) := by decide +kernel
theorem dX9_rightBy_50 : decode cX9_rightBy 50 = .ok (.goto (-46), 3) := by decide +kernel
theorem dX9_rightBy_53 : decode cX9_rightBy 53 = .ok (.iload_n 2, 1) := by decide +kernel
theorem dX9_rightBy_54 : decode cX9_rightBy 54 = .ok (.ireturn, 1) := by decide +kernel
theorem dX9_answersBy_0 : decode cX9_answersBy 0 = .ok (.iconst 0, 1) := by decide +kernel
theorem dX9_answersBy_1 : decode cX9_answersBy 1 = .ok (.istore_n 2, 1) := by decide +kernel
theorem dX9_answersBy_2 : decode cX9_answersBy 2 = .ok (.iconst 0, 1) := by decide +kernel
theorem dX9_answersBy_3 : decode cX9_answersBy 3 = .ok (.istore_n 3, 1) := by decide +kernel
theorem dX9_answersBy_4 : decode cX9_answersBy 4 = .ok (.iload_n 3, 1) := by decide +kernel
theorem dX9_answersBy_5 : decode cX9_answersBy 5 = .ok (.aload_n 0, 1) := by decide +kernel
theorem dX9_answersBy_6 : decode cX9_answersBy 6 = .ok (.getfield 115, 3) := by decide +kernel
theorem dX9_answersBy_9 : decode cX9_answersBy 9 = .ok (.if_icmp .ge 26, 3) := by decide +kernel
theorem dX9_answersBy_12 : decode cX9_answersBy 12 = .ok (.iload_n 2, 1) := by decide +kernel
theorem dX9_answersBy_13 : decode cX9_answersBy 13 = .ok (.aload_n 0, 1) := by decide +kernel
theorem dX9_answersBy_14 : decode cX9_answersBy 14 = .ok (.iload_n 1, 1) := by decide +kernel
theorem dX9_answersBy_15 : decode cX9_answersBy 15 = .ok (.iload_n 3, 1) := by decide +kernel
theorem dX9_answersBy_16 : decode cX9_answersBy 16 = .ok (.invokevirtual 159, 3) := by decide +kernel
theorem dX9_answersBy_19 : decode cX9_answersBy 19 = .ok (.ifCond .eq 7, 3) := by decide +kernel
theorem dX9_answersBy_22 : decode cX9_answersBy 22 = .ok (.iconst 1, 1) := by decide +kernel
theorem dX9_answersBy_23 : decode cX9_answersBy 23 = .ok (.goto 4, 3) := by decide +kernel
theorem dX9_answersBy_26 : decode cX9_answersBy 26 = .ok (.iconst 0, 1) := by decide +kernel
theorem dX9_answersBy_27 : decode cX9_answersBy 27 = .ok (.iadd, 1) := by decide +kernel
theorem dX9_answersBy_28 : decode cX9_answersBy 28 = .ok (.istore_n 2, 1) := by decide +kernel
theorem dX9_answersBy_29 : decode cX9_answersBy 29 = .ok (.iinc 3 1, 3) := by decide +kernel
theorem dX9_answersBy_32 : decode cX9_answersBy 32 = .ok (.goto (-28), 3) := by decide +kernel
theorem dX9_answersBy_35 : decode cX9_answersBy 35 = .ok (.iload_n 2, 1) := by decide +kernel
theorem dX9_answersBy_36 : decode cX9_answersBy 36 = .ok (.ireturn, 1) := by decide +kernel
theorem dX9_right_0 : decode cX9_right 0 = .ok (.aload_n 0, 1) := by decide +kernel
theorem dX9_right_1 : decode cX9_right 1 = .ok (.iload_n 1, 1) := by decide +kernel
theorem dX9_right_2 : decode cX9_right 2 = .ok (.invokevirtual 168, 3) := by decide +kernel
theorem dX9_right_5 : decode cX9_right 5 = .ok (.ifCond .ne 5, 3) := by decide +kernel
theorem dX9_right_8 : decode cX9_right 8 = .ok (.iconst (-1), 1) := by decide +kernel
theorem dX9_right_9 : decode cX9_right 9 = .ok (.ireturn, 1) := by decide +kernel
theorem dX9_right_10 : decode cX9_right 10 = .ok (.iload_n 2, 1) := by decide +kernel
theorem dX9_right_11 : decode cX9_right 11 = .ok (.ifCond .ne 11, 3) := by decide +kernel
theorem dX9_right_14 : decode cX9_right 14 = .ok (.aload_n 0, 1) := by decide +kernel
theorem dX9_right_15 : decode cX9_right 15 = .ok (.iload_n 1, 1) := by decide +kernel
theorem dX9_right_16 : decode cX9_right 16 = .ok (.invokevirtual 204, 3) := by decide +kernel
theorem dX9_right_19 : decode cX9_right 19 = .ok (.goto 45, 3) := by decide +kernel
theorem dX9_right_22 : decode cX9_right 22 = .ok (.iload_n 2, 1) := by decide +kernel
theorem dX9_right_23 : decode cX9_right 23 = .ok (.iconst 1, 1) := by decide +kernel
theorem dX9_right_24 : decode cX9_right 24 = .ok (.if_icmp .ne 11, 3) := by decide +kernel
theorem dX9_right_27 : decode cX9_right 27 = .ok (.aload_n 0, 1) := by decide +kernel
theorem dX9_right_28 : decode cX9_right 28 = .ok (.iload_n 1, 1) := by decide +kernel
theorem dX9_right_29 : decode cX9_right 29 = .ok (.invokevirtual 207, 3) := by decide +kernel
theorem dX9_right_32 : decode cX9_right 32 = .ok (.goto 32, 3) := by decide +kernel
theorem dX9_right_35 : decode cX9_right 35 = .ok (.iload_n 2, 1) := by decide +kernel
theorem dX9_right_36 : decode cX9_right 36 = .ok (.iconst 2, 1) := by decide +kernel
theorem dX9_right_37 : decode cX9_right 37 = .ok (.if_icmp .ne 11, 3) := by decide +kernel
theorem dX9_right_40 : decode cX9_right 40 = .ok (.aload_n 0, 1) := by decide +kernel
theorem dX9_right_41 : decode cX9_right 41 = .ok (.iload_n 1, 1) := by decide +kernel
theorem dX9_right_42 : decode cX9_right 42 = .ok (.invokevirtual 210, 3) := by decide +kernel
theorem dX9_right_45 : decode cX9_right 45 = .ok (.goto 19, 3) := by decide +kernel
theorem dX9_right_48 : decode cX9_right 48 = .ok (.iload_n 2, 1) := by decide +kernel
theorem dX9_right_49 : decode cX9_right 49 = .ok (.iconst 3, 1) := by decide +kernel
theorem dX9_right_50 : decode cX9_right 50 = .ok (.if_icmp .ne 12, 3) := by decide +kernel
theorem dX9_right_53 : decode cX9_right 53 = .ok (.aload_n 0, 1) := by decide +kernel
theorem dX9_right_54 : decode cX9_right 54 = .ok (.getfield 44, 3) := by decide +kernel
theorem dX9_right_57 : decode cX9_right 57 = .ok (.iload_n 1, 1) := by decide +kernel
theorem dX9_right_58 : decode cX9_right 58 = .ok (.iaload, 1) := by decide +kernel
theorem dX9_right_59 : decode cX9_right 59 = .ok (.goto 5, 3) := by decide +kernel
theorem dX9_right_62 : decode cX9_right 62 = .ok (.bipush (-2), 2) := by decide +kernel
theorem dX9_right_64 : decode cX9_right 64 = .ok (.ireturn, 1) := by decide +kernel
theorem dX9_common_0 : decode cX9_common 0 = .ok (.lload_n 0, 1) := by decide +kernel
theorem dX9_common_1 : decode cX9_common 1 = .ok (.lstore 4, 2) := by decide +kernel
theorem dX9_common_3 : decode cX9_common 3 = .ok (.lload_n 2, 1) := by decide +kernel
theorem dX9_common_4 : decode cX9_common 4 = .ok (.lstore 6, 2) := by decide +kernel
theorem dX9_common_6 : decode cX9_common 6 = .ok (.lload 6, 2) := by decide +kernel
theorem dX9_common_8 : decode cX9_common 8 = .ok (.lconst 0, 1) := by decide +kernel
theorem dX9_common_9 : decode cX9_common 9 = .ok (.lcmp, 1) := by decide +kernel
theorem dX9_common_10 : decode cX9_common 10 = .ok (.ifCond .eq 21, 3) := by decide +kernel
theorem dX9_common_13 : decode cX9_common 13 = .ok (.lload 4, 2) := by decide +kernel
theorem dX9_common_15 : decode cX9_common 15 = .ok (.lload 6, 2) := by decide +kernel
theorem dX9_common_17 : decode cX9_common 17 = .ok (.lrem, 1) := by decide +kernel
theorem dX9_common_18 : decode cX9_common 18 = .ok (.lstore 8, 2) := by decide +kernel
theorem dX9_common_20 : decode cX9_common 20 = .ok (.lload 6, 2) := by decide +kernel
theorem dX9_common_22 : decode cX9_common 22 = .ok (.lstore 4, 2) := by decide +kernel
theorem dX9_common_24 : decode cX9_common 24 = .ok (.lload 8, 2) := by decide +kernel
theorem dX9_common_26 : decode cX9_common 26 = .ok (.lstore 6, 2) := by decide +kernel
theorem dX9_common_28 : decode cX9_common 28 = .ok (.goto (-22), 3) := by decide +kernel
theorem dX9_common_31 : decode cX9_common 31 = .ok (.lload 4, 2) := by decide +kernel
theorem dX9_common_33 : decode cX9_common 33 = .ok (.lreturn, 1) := by decide +kernel
theorem dX9_term_0 : decode cX9_term 0 = .ok (.lload_n 0, 1) := by decide +kernel
theorem dX9_term_1 : decode cX9_term 1 = .ok (.lload_n 2, 1) := by decide +kernel
theorem dX9_term_2 : decode cX9_term 2 = .ok (.invokestatic 213, 3) := by decide +kernel
theorem dX9_term_5 : decode cX9_term 5 = .ok (.lstore 5, 2) := by decide +kernel
theorem dX9_term_7 : decode cX9_term 7 = .ok (.iload 4, 2) := by decide +kernel
theorem dX9_term_9 : decode cX9_term 9 = .ok (.ifCond .ne 10, 3) := by decide +kernel
theorem dX9_term_12 : decode cX9_term 12 = .ok (.lload_n 0, 1) := by decide +kernel
theorem dX9_term_13 : decode cX9_term 13 = .ok (.lload 5, 2) := by decide +kernel
theorem dX9_term_15 : decode cX9_term 15 = .ok (.ldiv, 1) := by decide +kernel
theorem dX9_term_16 : decode cX9_term 16 = .ok (.goto 7, 3) := by decide +kernel
theorem dX9_term_19 : decode cX9_term 19 = .ok (.lload_n 2, 1) := by decide +kernel
theorem dX9_term_20 : decode cX9_term 20 = .ok (.lload 5, 2) := by decide +kernel
theorem dX9_term_22 : decode cX9_term 22 = .ok (.ldiv, 1) := by decide +kernel
theorem dX9_term_23 : decode cX9_term 23 = .ok (.lreturn, 1) := by decide +kernel
theorem dX9_beginWays_0 : decode cX9_beginWays 0 = .ok (.iconst 0, 1) := by decide +kernel
theorem dX9_beginWays_1 : decode cX9_beginWays 1 = .ok (.istore_n 1, 1) := by decide +kernel
theorem dX9_beginWays_2 : decode cX9_beginWays 2 = .ok (.iload_n 1, 1) := by decide +kernel
theorem dX9_beginWays_3 : decode cX9_beginWays 3 = .ok (.bipush 25, 2) := by decide +kernel
theorem dX9_beginWays_5 : decode cX9_beginWays 5 = .ok (.if_icmp .ge 24, 3) := by decide +kernel
theorem dX9_beginWays_8 : decode cX9_beginWays 8 = .ok (.aload_n 0, 1) := by decide +kernel
theorem dX9_beginWays_9 : decode cX9_beginWays 9 = .ok (.getfield 86, 3) := by decide +kernel
theorem dX9_beginWays_12 : decode cX9_beginWays 12 = .ok (.iload_n 1, 1) := by decide +kernel
theorem dX9_beginWays_13 : decode cX9_beginWays 13 = .ok (.iload_n 1, 1) := by decide +kernel
theorem dX9_beginWays_14 : decode cX9_beginWays 14 = .ok (.ifCond .ne 7, 3) := by decide +kernel
theorem dX9_beginWays_17 : decode cX9_beginWays 17 = .ok (.lconst 1, 1) := by decide +kernel
theorem dX9_beginWays_18 : decode cX9_beginWays 18 = .ok (.goto 4, 3) := by decide +kernel
theorem dX9_beginWays_21 : decode cX9_beginWays 21 = .ok (.lconst 0, 1) := by decide +kernel
theorem dX9_beginWays_22 : decode cX9_beginWays 22 = .ok (.lastore, 1) := by decide +kernel
theorem dX9_beginWays_23 : decode cX9_beginWays 23 = .ok (.iinc 1 1, 3) := by decide +kernel
theorem dX9_beginWays_26 : decode cX9_beginWays 26 = .ok (.goto (-24), 3) := by decide +kernel
theorem dX9_beginWays_29 : decode cX9_beginWays 29 = .ok (.aload_n 0, 1) := by decide +kernel
theorem dX9_beginWays_30 : decode cX9_beginWays 30 = .ok (.lconst 1, 1) := by decide +kernel
theorem dX9_beginWays_31 : decode cX9_beginWays 31 = .ok (.putfield 217, 3) := by decide +kernel
theorem dX9_beginWays_34 : decode cX9_beginWays 34 = .ok (.aload_n 0, 1) := by decide +kernel
theorem dX9_beginWays_35 : decode cX9_beginWays 35 = .ok (.iconst 0, 1) := by decide +kernel
theorem dX9_beginWays_36 : decode cX9_beginWays 36 = .ok (.putfield 221, 3) := by decide +kernel
theorem dX9_beginWays_39 : decode cX9_beginWays 39 = .ok (.return_, 1) := by decide +kernel
theorem dX9_drawFrom_0 : decode cX9_drawFrom 0 = .ok (.aload_n 0, 1) := by decide +kernel
theorem dX9_drawFrom_1 : decode cX9_drawFrom 1 = .ok (.dup, 1) := by decide +kernel
theorem dX9_drawFrom_2 : decode cX9_drawFrom 2 = .ok (.getfield 221, 3) := by decide +kernel
theorem dX9_drawFrom_5 : decode cX9_drawFrom 5 = .ok (.iconst 1, 1) := by decide +kernel
theorem dX9_drawFrom_6 : decode cX9_drawFrom 6 = .ok (.iadd, 1) := by decide +kernel
theorem dX9_drawFrom_7 : decode cX9_drawFrom 7 = .ok (.putfield 221, 3) := by decide +kernel
theorem dX9_drawFrom_10 : decode cX9_drawFrom 10 = .ok (.aload_n 0, 1) := by decide +kernel
theorem dX9_drawFrom_11 : decode cX9_drawFrom 11 = .ok (.getfield 221, 3) := by decide +kernel
theorem dX9_drawFrom_14 : decode cX9_drawFrom 14 = .ok (.istore_n 2, 1) := by decide +kernel
theorem dX9_drawFrom_15 : decode cX9_drawFrom 15 = .ok (.iload_n 2, 1) := by decide +kernel
theorem dX9_drawFrom_16 : decode cX9_drawFrom 16 = .ok (.ifCond .lt 43, 3) := by decide +kernel
theorem dX9_drawFrom_19 : decode cX9_drawFrom 19 = .ok (.aload_n 0, 1) := by decide +kernel
theorem dX9_drawFrom_20 : decode cX9_drawFrom 20 = .ok (.getfield 86, 3) := by decide +kernel
theorem dX9_drawFrom_23 : decode cX9_drawFrom 23 = .ok (.iload_n 2, 1) := by decide +kernel
theorem dX9_drawFrom_24 : decode cX9_drawFrom 24 = .ok (.aload_n 0, 1) := by decide +kernel
theorem dX9_drawFrom_25 : decode cX9_drawFrom 25 = .ok (.getfield 86, 3) := by decide +kernel
theorem dX9_drawFrom_28 : decode cX9_drawFrom 28 = .ok (.iload_n 2, 1) := by decide +kernel
theorem dX9_drawFrom_29 : decode cX9_drawFrom 29 = .ok (.laload, 1) := by decide +kernel
theorem dX9_drawFrom_30 : decode cX9_drawFrom 30 = .ok (.iload_n 1, 1) := by decide +kernel
theorem dX9_drawFrom_31 : decode cX9_drawFrom 31 = .ok (.iconst 1, 1) := by decide +kernel
theorem dX9_drawFrom_32 : decode cX9_drawFrom 32 = .ok (.isub, 1) := by decide +kernel
theorem dX9_drawFrom_33 : decode cX9_drawFrom 33 = .ok (.i2l, 1) := by decide +kernel
theorem dX9_drawFrom_34 : decode cX9_drawFrom 34 = .ok (.lmul, 1) := by decide +kernel
theorem dX9_drawFrom_35 : decode cX9_drawFrom 35 = .ok (.iload_n 2, 1) := by decide +kernel
theorem dX9_drawFrom_36 : decode cX9_drawFrom 36 = .ok (.ifCond .le 14, 3) := by decide +kernel
theorem dX9_drawFrom_39 : decode cX9_drawFrom 39 = .ok (.aload_n 0, 1) := by decide +kernel
theorem dX9_drawFrom_40 : decode cX9_drawFrom 40 = .ok (.getfield 86, 3) := by decide +kernel
theorem dX9_drawFrom_43 : decode cX9_drawFrom 43 = .ok (.iload_n 2, 1) := by decide +kernel
theorem dX9_drawFrom_44 : decode cX9_drawFrom 44 = .ok (.iconst 1, 1) := by decide +kernel
theorem dX9_drawFrom_45 : decode cX9_drawFrom 45 = .ok (.isub, 1) := by decide +kernel
theorem dX9_drawFrom_46 : decode cX9_drawFrom 46 = .ok (.laload, 1) := by decide +kernel
theorem dX9_drawFrom_47 : decode cX9_drawFrom 47 = .ok (.goto 4, 3) := by decide +kernel
theorem dX9_drawFrom_50 : decode cX9_drawFrom 50 = .ok (.lconst 0, 1) := by decide +kernel
theorem dX9_drawFrom_51 : decode cX9_drawFrom 51 = .ok (.ladd, 1) := by decide +kernel
theorem dX9_drawFrom_52 : decode cX9_drawFrom 52 = .ok (.lastore, 1) := by decide +kernel
theorem dX9_drawFrom_53 : decode cX9_drawFrom 53 = .ok (.iinc 2 (-1), 3) := by decide +kernel
theorem dX9_drawFrom_56 : decode cX9_drawFrom 56 = .ok (.goto (-41), 3) := by decide +kernel
theorem dX9_drawFrom_59 : decode cX9_drawFrom 59 = .ok (.aload_n 0, 1) := by decide +kernel
theorem dX9_drawFrom_60 : decode cX9_drawFrom 60 = .ok (.dup, 1) := by decide +kernel
theorem dX9_drawFrom_61 : decode cX9_drawFrom 61 = .ok (.getfield 217, 3) := by decide +kernel
theorem dX9_drawFrom_64 : decode cX9_drawFrom 64 = .ok (.iload_n 1, 1) := by decide +kernel
theorem dX9_drawFrom_65 : decode cX9_drawFrom 65 = .ok (.i2l, 1) := by decide +kernel
theorem dX9_drawFrom_66 : decode cX9_drawFrom 66 = .ok (.lmul, 1) := by decide +kernel
theorem dX9_drawFrom_67 : decode cX9_drawFrom 67 = .ok (.putfield 217, 3) := by decide +kernel
theorem dX9_drawFrom_70 : decode cX9_drawFrom 70 = .ok (.return_, 1) := by decide +kernel
theorem dX9_oddsFrom_0 : decode cX9_oddsFrom 0 = .ok (.lconst 0, 1) := by decide +kernel
theorem dX9_oddsFrom_1 : decode cX9_oddsFrom 1 = .ok (.lstore_n 3, 1) := by decide +kernel
theorem dX9_oddsFrom_2 : decode cX9_oddsFrom 2 = .ok (.iload_n 1, 1) := by decide +kernel
theorem dX9_oddsFrom_3 : decode cX9_oddsFrom 3 = .ok (.istore 5, 2) := by decide +kernel
theorem dX9_oddsFrom_5 : decode cX9_oddsFrom 5 = .ok (.iload 5, 2) := by decide +kernel
theorem dX9_oddsFrom_7 : decode cX9_oddsFrom 7 = .ok (.aload_n 0, 1) := by decide +kernel
theorem dX9_oddsFrom_8 : decode cX9_oddsFrom 8 = .ok (.getfield 221, 3) := by decide +kernel
theorem dX9_oddsFrom_11 : decode cX9_oddsFrom 11 = .ok (.if_icmp .gt 19, 3) := by decide +kernel
theorem dX9_oddsFrom_14 : decode cX9_oddsFrom 14 = .ok (.lload_n 3, 1) := by decide +kernel
theorem dX9_oddsFrom_15 : decode cX9_oddsFrom 15 = .ok (.aload_n 0, 1) := by decide +kernel
theorem dX9_oddsFrom_16 : decode cX9_oddsFrom 16 = .ok (.getfield 86, 3) := by decide +kernel
theorem dX9_oddsFrom_19 : decode cX9_oddsFrom 19 = .ok (.iload 5, 2) := by decide +kernel
theorem dX9_oddsFrom_21 : decode cX9_oddsFrom 21 = .ok (.laload, 1) := by decide +kernel
theorem dX9_oddsFrom_22 : decode cX9_oddsFrom 22 = .ok (.ladd, 1) := by decide +kernel
theorem dX9_oddsFrom_23 : decode cX9_oddsFrom 23 = .ok (.lstore_n 3, 1) := by decide +kernel
theorem dX9_oddsFrom_24 : decode cX9_oddsFrom 24 = .ok (.iinc 5 1, 3) := by decide +kernel
theorem dX9_oddsFrom_27 : decode cX9_oddsFrom 27 = .ok (.goto (-22), 3) := by decide +kernel
theorem dX9_oddsFrom_30 : decode cX9_oddsFrom 30 = .ok (.lload_n 3, 1) := by decide +kernel
theorem dX9_oddsFrom_31 : decode cX9_oddsFrom 31 = .ok (.aload_n 0, 1) := by decide +kernel
theorem dX9_oddsFrom_32 : decode cX9_oddsFrom 32 = .ok (.getfield 217, 3) := by decide +kernel
theorem dX9_oddsFrom_35 : decode cX9_oddsFrom 35 = .ok (.iload_n 2, 1) := by decide +kernel
theorem dX9_oddsFrom_36 : decode cX9_oddsFrom 36 = .ok (.invokestatic 224, 3) := by decide +kernel
theorem dX9_oddsFrom_39 : decode cX9_oddsFrom 39 = .ok (.lreturn, 1) := by decide +kernel
theorem dX9_guessing_0 : decode cX9_guessing 0 = .ok (.aload_n 0, 1) := by decide +kernel
theorem dX9_guessing_1 : decode cX9_guessing 1 = .ok (.iload_n 1, 1) := by decide +kernel
theorem dX9_guessing_2 : decode cX9_guessing 2 = .ok (.invokevirtual 168, 3) := by decide +kernel
theorem dX9_guessing_5 : decode cX9_guessing 5 = .ok (.ifCond .ne 7, 3) := by decide +kernel
theorem dX9_guessing_8 : decode cX9_guessing 8 = .ok (.ldc2_w 228, 3) := by decide +kernel
theorem dX9_guessing_11 : decode cX9_guessing 11 = .ok (.lreturn, 1) := by decide +kernel
theorem dX9_guessing_12 : decode cX9_guessing 12 = .ok (.iload_n 2, 1) := by decide +kernel
theorem dX9_guessing_13 : decode cX9_guessing 13 = .ok (.iconst 0, 1) := by decide +kernel
theorem dX9_guessing_14 : decode cX9_guessing 14 = .ok (.iconst 1, 1) := by decide +kernel
theorem dX9_guessing_15 : decode cX9_guessing 15 = .ok (.invokestatic 93, 3) := by decide +kernel
theorem dX9_guessing_18 : decode cX9_guessing 18 = .ok (.ifCond .ne 7, 3) := by decide +kernel
theorem dX9_guessing_21 : decode cX9_guessing 21 = .ok (.ldc2_w 230, 3) := by decide +kernel
theorem dX9_guessing_24 : decode cX9_guessing 24 = .ok (.lreturn, 1) := by decide +kernel
theorem dX9_guessing_25 : decode cX9_guessing 25 = .ok (.aload_n 0, 1) := by decide +kernel
theorem dX9_guessing_26 : decode cX9_guessing 26 = .ok (.invokevirtual 232, 3) := by decide +kernel
theorem dX9_guessing_29 : decode cX9_guessing 29 = .ok (.iconst 0, 1) := by decide +kernel
theorem dX9_guessing_30 : decode cX9_guessing 30 = .ok (.istore_n 3, 1) := by decide +kernel
theorem dX9_guessing_31 : decode cX9_guessing 31 = .ok (.iload_n 3, 1) := by decide +kernel
theorem dX9_guessing_32 : decode cX9_guessing 32 = .ok (.aload_n 0, 1) := by decide +kernel
theorem dX9_guessing_33 : decode cX9_guessing 33 = .ok (.getfield 115, 3) := by decide +kernel
theorem dX9_guessing_36 : decode cX9_guessing 36 = .ok (.if_icmp .ge 36, 3) := by decide +kernel
theorem dX9_guessing_39 : decode cX9_guessing 39 = .ok (.aload_n 0, 1) := by decide +kernel
theorem dX9_guessing_40 : decode cX9_guessing 40 = .ok (.getfield 31, 3) := by decide +kernel
theorem dX9_guessing_43 : decode cX9_guessing 43 = .ok (.iload_n 3, 1) := by decide +kernel
theorem dX9_guessing_44 : decode cX9_guessing 44 = .ok (.iaload, 1) := by decide +kernel
theorem dX9_guessing_45 : decode cX9_guessing 45 = .ok (.ifCond .lt 21, 3) := by decide +kernel
theorem dX9_guessing_48 : decode cX9_guessing 48 = .ok (.aload_n 0, 1) := by decide +kernel
theorem dX9_guessing_49 : decode cX9_guessing 49 = .ok (.iload_n 1, 1) := by decide +kernel
theorem dX9_guessing_50 : decode cX9_guessing 50 = .ok (.iload_n 3, 1) := by decide +kernel
theorem dX9_guessing_51 : decode cX9_guessing 51 = .ok (.invokevirtual 159, 3) := by decide +kernel
theorem dX9_guessing_54 : decode cX9_guessing 54 = .ok (.ifCond .eq 12, 3) := by decide +kernel
theorem dX9_guessing_57 : decode cX9_guessing 57 = .ok (.aload_n 0, 1) := by decide +kernel
theorem dX9_guessing_58 : decode cX9_guessing 58 = .ok (.aload_n 0, 1) := by decide +kernel
theorem dX9_guessing_59 : decode cX9_guessing 59 = .ok (.iload_n 3, 1) := by decide +kernel
theorem dX9_guessing_60 : decode cX9_guessing 60 = .ok (.invokevirtual 138, 3) := by decide +kernel
theorem dX9_guessing_63 : decode cX9_guessing 63 = .ok (.invokevirtual 235, 3) := by decide +kernel
theorem dX9_guessing_66 : decode cX9_guessing 66 = .ok (.iinc 3 1, 3) := by decide +kernel
theorem dX9_guessing_69 : decode cX9_guessing 69 = .ok (.goto (-38), 3) := by decide +kernel
theorem dX9_guessing_72 : decode cX9_guessing 72 = .ok (.aload_n 0, 1) := by decide +kernel
theorem dX9_guessing_73 : decode cX9_guessing 73 = .ok (.aload_n 0, 1) := by decide +kernel
theorem dX9_guessing_74 : decode cX9_guessing 74 = .ok (.iload_n 1, 1) := by decide +kernel
theorem dX9_guessing_75 : decode cX9_guessing 75 = .ok (.invokevirtual 210, 3) := by decide +kernel
theorem dX9_guessing_78 : decode cX9_guessing 78 = .ok (.iload_n 2, 1) := by decide +kernel
theorem dX9_guessing_79 : decode cX9_guessing 79 = .ok (.invokevirtual 239, 3) := by decide +kernel
theorem dX9_guessing_82 : decode cX9_guessing 82 = .ok (.lreturn, 1) := by decide +kernel
theorem dX9_copying_0 : decode cX9_copying 0 = .ok (.aload_n 0, 1) := by decide +kernel
theorem dX9_copying_1 : decode cX9_copying 1 = .ok (.iload_n 1, 1) := by decide +kernel
theorem dX9_copying_2 : decode cX9_copying 2 = .ok (.invokevirtual 168, 3) := by decide +kernel
theorem dX9_copying_5 : decode cX9_copying 5 = .ok (.ifCond .eq 16, 3) := by decide +kernel
theorem dX9_copying_8 : decode cX9_copying 8 = .ok (.aload_n 0, 1) := by decide +kernel
theorem dX9_copying_9 : decode cX9_copying 9 = .ok (.iload_n 2, 1) := by decide +kernel
theorem dX9_copying_10 : decode cX9_copying 10 = .ok (.invokevirtual 168, 3) := by decide +kernel
theorem dX9_copying_13 : decode cX9_copying 13 = .ok (.ifCond .eq 8, 3) := by decide +kernel
theorem dX9_copying_16 : decode cX9_copying 16 = .ok (.iload_n 1, 1) := by decide +kernel
theorem dX9_copying_17 : decode cX9_copying 17 = .ok (.iload_n 2, 1) := by decide +kernel
theorem dX9_copying_18 : decode cX9_copying 18 = .ok (.if_icmp .ne 7, 3) := by decide +kernel
theorem dX9_copying_21 : decode cX9_copying 21 = .ok (.ldc2_w 228, 3) := by decide +kernel
theorem dX9_copying_24 : decode cX9_copying 24 = .ok (.lreturn, 1) := by decide +kernel
theorem dX9_copying_25 : decode cX9_copying 25 = .ok (.iload_n 3, 1) := by decide +kernel
theorem dX9_copying_26 : decode cX9_copying 26 = .ok (.iconst 0, 1) := by decide +kernel
theorem dX9_copying_27 : decode cX9_copying 27 = .ok (.iconst 1, 1) := by decide +kernel
theorem dX9_copying_28 : decode cX9_copying 28 = .ok (.invokestatic 93, 3) := by decide +kernel
theorem dX9_copying_31 : decode cX9_copying 31 = .ok (.ifCond .ne 7, 3) := by decide +kernel
theorem dX9_copying_34 : decode cX9_copying 34 = .ok (.ldc2_w 230, 3) := by decide +kernel
theorem dX9_copying_37 : decode cX9_copying 37 = .ok (.lreturn, 1) := by decide +kernel
theorem dX9_copying_38 : decode cX9_copying 38 = .ok (.aload_n 0, 1) := by decide +kernel
theorem dX9_copying_39 : decode cX9_copying 39 = .ok (.invokevirtual 232, 3) := by decide +kernel
theorem dX9_copying_42 : decode cX9_copying 42 = .ok (.iconst 0, 1) := by decide +kernel
theorem dX9_copying_43 : decode cX9_copying 43 = .ok (.istore 4, 2) := by decide +kernel
theorem dX9_copying_45 : decode cX9_copying 45 = .ok (.iconst 0, 1) := by decide +kernel
theorem dX9_copying_46 : decode cX9_copying 46 = .ok (.istore 5, 2) := by decide +kernel
theorem dX9_copying_48 : decode cX9_copying 48 = .ok (.iload 5, 2) := by decide +kernel
theorem dX9_copying_50 : decode cX9_copying 50 = .ok (.aload_n 0, 1) := by decide +kernel
theorem dX9_copying_51 : decode cX9_copying 51 = .ok (.getfield 115, 3) := by decide +kernel
theorem dX9_copying_54 : decode cX9_copying 54 = .ok (.if_icmp .ge 85, 3) := by decide +kernel
theorem dX9_copying_57 : decode cX9_copying 57 = .ok (.aload_n 0, 1) := by decide +kernel
theorem dX9_copying_58 : decode cX9_copying 58 = .ok (.getfield 221, 3) := by decide +kernel
theorem dX9_copying_61 : decode cX9_copying 61 = .ok (.bipush 14, 2) := by decide +kernel
theorem dX9_copying_63 : decode cX9_copying 63 = .ok (.if_icmp .ge 76, 3) := by decide +kernel
theorem dX9_copying_66 : decode cX9_copying 66 = .ok (.aload_n 0, 1) := by decide +kernel
theorem dX9_copying_67 : decode cX9_copying 67 = .ok (.iload_n 1, 1) := by decide +kernel
theorem dX9_copying_68 : decode cX9_copying 68 = .ok (.iload 5, 2) := by decide +kernel
theorem dX9_copying_70 : decode cX9_copying 70 = .ok (.invokevirtual 159, 3) := by decide +kernel
theorem dX9_copying_73 : decode cX9_copying 73 = .ok (.ifCond .eq 60, 3) := by decide +kernel
theorem dX9_copying_76 : decode cX9_copying 76 = .ok (.aload_n 0, 1) := by decide +kernel
theorem dX9_copying_77 : decode cX9_copying 77 = .ok (.iload_n 2, 1) := by decide +kernel
theorem dX9_copying_78 : decode cX9_copying 78 = .ok (.iload 5, 2) := by decide +kernel
theorem dX9_copying_80 : decode cX9_copying 80 = .ok (.invokevirtual 159, 3) := by decide +kernel
theorem dX9_copying_83 : decode cX9_copying 83 = .ok (.ifCond .eq 50, 3) := by decide +kernel
theorem dX9_copying_86 : decode cX9_copying 86 = .ok (.aload_n 0, 1) := by decide +kernel
theorem dX9_copying_87 : decode cX9_copying 87 = .ok (.aload_n 0, 1) := by decide +kernel
theorem dX9_copying_88 : decode cX9_copying 88 = .ok (.iload 5, 2) := by decide +kernel
theorem dX9_copying_90 : decode cX9_copying 90 = .ok (.invokevirtual 138, 3) := by decide +kernel
theorem dX9_copying_93 : decode cX9_copying 93 = .ok (.invokevirtual 235, 3) := by decide +kernel
theorem dX9_copying_96 : decode cX9_copying 96 = .ok (.iload 4, 2) := by decide +kernel
theorem dX9_copying_98 : decode cX9_copying 98 = .ok (.aload_n 0, 1) := by decide +kernel
theorem dX9_copying_99 : decode cX9_copying 99 = .ok (.getfield 47, 3) := by decide +kernel
theorem dX9_copying_102 : decode cX9_copying 102 = .ok (.bipush 24, 2) := by decide +kernel
theorem dX9_copying_104 : decode cX9_copying 104 = .ok (.iload_n 1, 1) := by decide +kernel
theorem dX9_copying_105 : decode cX9_copying 105 = .ok (.imul, 1) := by decide +kernel
theorem dX9_copying_106 : decode cX9_copying 106 = .ok (.iload 5, 2) := by decide +kernel
theorem dX9_copying_108 : decode cX9_copying 108 = .ok (.iadd, 1) := by decide +kernel
theorem dX9_copying_109 : decode cX9_copying 109 = .ok (.iaload, 1) := by decide +kernel
theorem dX9_copying_110 : decode cX9_copying 110 = .ok (.aload_n 0, 1) := by decide +kernel
theorem dX9_copying_111 : decode cX9_copying 111 = .ok (.getfield 47, 3) := by decide +kernel
theorem dX9_copying_114 : decode cX9_copying 114 = .ok (.bipush 24, 2) := by decide +kernel
theorem dX9_copying_116 : decode cX9_copying 116 = .ok (.iload_n 2, 1) := by decide +kernel
theorem dX9_copying_117 : decode cX9_copying 117 = .ok (.imul, 1) := by decide +kernel
theorem dX9_copying_118 : decode cX9_copying 118 = .ok (.iload 5, 2) := by decide +kernel
theorem dX9_copying_120 : decode cX9_copying 120 = .ok (.iadd, 1) := by decide +kernel
theorem dX9_copying_121 : decode cX9_copying 121 = .ok (.iaload, 1) := by decide +kernel
theorem dX9_copying_122 : decode cX9_copying 122 = .ok (.if_icmp .ne 7, 3) := by decide +kernel
theorem dX9_copying_125 : decode cX9_copying 125 = .ok (.iconst 1, 1) := by decide +kernel
theorem dX9_copying_126 : decode cX9_copying 126 = .ok (.goto 4, 3) := by decide +kernel
theorem dX9_copying_129 : decode cX9_copying 129 = .ok (.iconst 0, 1) := by decide +kernel
theorem dX9_copying_130 : decode cX9_copying 130 = .ok (.iadd, 1) := by decide +kernel
theorem dX9_copying_131 : decode cX9_copying 131 = .ok (.istore 4, 2) := by decide +kernel
theorem dX9_copying_133 : decode cX9_copying 133 = .ok (.iinc 5 1, 3) := by decide +kernel
theorem dX9_copying_136 : decode cX9_copying 136 = .ok (.goto (-88), 3) := by decide +kernel
theorem dX9_copying_139 : decode cX9_copying 139 = .ok (.aload_n 0, 1) := by decide +kernel
theorem dX9_copying_140 : decode cX9_copying 140 = .ok (.iload 4, 2) := by decide +kernel
theorem dX9_copying_142 : decode cX9_copying 142 = .ok (.iload_n 3, 1) := by decide +kernel
theorem dX9_copying_143 : decode cX9_copying 143 = .ok (.invokevirtual 239, 3) := by decide +kernel
theorem dX9_copying_146 : decode cX9_copying 146 = .ok (.lreturn, 1) := by decide +kernel
theorem dX9_misread_0 : decode cX9_misread 0 = .ok (.iload_n 1, 1) := by decide +kernel
theorem dX9_misread_1 : decode cX9_misread 1 = .ok (.iconst 1, 1) := by decide +kernel
theorem dX9_misread_2 : decode cX9_misread 2 = .ok (.bipush 10, 2) := by decide +kernel
theorem dX9_misread_4 : decode cX9_misread 4 = .ok (.invokestatic 93, 3) := by decide +kernel
theorem dX9_misread_7 : decode cX9_misread 7 = .ok (.ifCond .ne 6, 3) := by decide +kernel
theorem dX9_misread_10 : decode cX9_misread 10 = .ok (.bipush (-2), 2) := by decide +kernel
theorem dX9_misread_12 : decode cX9_misread 12 = .ok (.ireturn, 1) := by decide +kernel
theorem dX9_misread_13 : decode cX9_misread 13 = .ok (.iconst 0, 1) := by decide +kernel
theorem dX9_misread_14 : decode cX9_misread 14 = .ok (.istore_n 2, 1) := by decide +kernel
theorem dX9_misread_15 : decode cX9_misread 15 = .ok (.iconst 0, 1) := by decide +kernel
theorem dX9_misread_16 : decode cX9_misread 16 = .ok (.istore_n 3, 1) := by decide +kernel
theorem dX9_misread_17 : decode cX9_misread 17 = .ok (.iload_n 3, 1) := by decide +kernel
theorem dX9_misread_18 : decode cX9_misread 18 = .ok (.aload_n 0, 1) := by decide +kernel
theorem dX9_misread_19 : decode cX9_misread 19 = .ok (.getfield 115, 3) := by decide +kernel
theorem dX9_misread_22 : decode cX9_misread 22 = .ok (.if_icmp .ge 127, 3) := by decide +kernel
theorem dX9_misread_25 : decode cX9_misread 25 = .ok (.iconst 0, 1) := by decide +kernel
theorem dX9_misread_26 : decode cX9_misread 26 = .ok (.istore 4, 2) := by decide +kernel
theorem dX9_misread_28 : decode cX9_misread 28 = .ok (.iload 4, 2) := by decide +kernel
theorem dX9_misread_30 : decode cX9_misread 30 = .ok (.aload_n 0, 1) := by decide +kernel
theorem dX9_misread_31 : decode cX9_misread 31 = .ok (.iload_n 3, 1) := by decide +kernel
theorem dX9_misread_32 : decode cX9_misread 32 = .ok (.invokevirtual 138, 3) := by decide +kernel
theorem dX9_misread_35 : decode cX9_misread 35 = .ok (.if_icmp .ge 108, 3) := by decide +kernel
theorem dX9_misread_38 : decode cX9_misread 38 = .ok (.aload_n 0, 1) := by decide +kernel
theorem dX9_misread_39 : decode cX9_misread 39 = .ok (.getfield 31, 3) := by decide +kernel
theorem dX9_misread_42 : decode cX9_misread 42 = .ok (.iload_n 3, 1) := by decide +kernel
theorem dX9_misread_43 : decode cX9_misread 43 = .ok (.iaload, 1) := by decide +kernel
theorem dX9_misread_44 : decode cX9_misread 44 = .ok (.ifCond .lt 99, 3) := by decide +kernel
theorem dX9_misread_47 : decode cX9_misread 47 = .ok (.iconst 0, 1) := by decide +kernel
theorem dX9_misread_48 : decode cX9_misread 48 = .ok (.istore 5, 2) := by decide +kernel
theorem dX9_misread_50 : decode cX9_misread 50 = .ok (.iconst 0, 1) := by decide +kernel
theorem dX9_misread_51 : decode cX9_misread 51 = .ok (.istore 6, 2) := by decide +kernel
theorem dX9_misread_53 : decode cX9_misread 53 = .ok (.iload 6, 2) := by decide +kernel
theorem dX9_misread_55 : decode cX9_misread 55 = .ok (.aload_n 0, 1) := by decide +kernel
theorem dX9_misread_56 : decode cX9_misread 56 = .ok (.getfield 118, 3) := by decide +kernel
theorem dX9_misread_59 : decode cX9_misread 59 = .ok (.if_icmp .ge 48, 3) := by decide +kernel
theorem dX9_misread_62 : decode cX9_misread 62 = .ok (.iload 5, 2) := by decide +kernel
theorem dX9_misread_64 : decode cX9_misread 64 = .ok (.aload_n 0, 1) := by decide +kernel
theorem dX9_misread_65 : decode cX9_misread 65 = .ok (.iload 6, 2) := by decide +kernel
theorem dX9_misread_67 : decode cX9_misread 67 = .ok (.iload_n 3, 1) := by decide +kernel
theorem dX9_misread_68 : decode cX9_misread 68 = .ok (.invokevirtual 159, 3) := by decide +kernel
theorem dX9_misread_71 : decode cX9_misread 71 = .ok (.ifCond .eq 26, 3) := by decide +kernel
theorem dX9_misread_74 : decode cX9_misread 74 = .ok (.aload_n 0, 1) := by decide +kernel
