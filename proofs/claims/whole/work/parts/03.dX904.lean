theorem dX9_misread_75 : decode cX9_misread 75 = .ok (.getfield 47, 3) := by decide +kernel
theorem dX9_misread_78 : decode cX9_misread 78 = .ok (.bipush 24, 2) := by decide +kernel
theorem dX9_misread_80 : decode cX9_misread 80 = .ok (.iload 6, 2) := by decide +kernel
theorem dX9_misread_82 : decode cX9_misread 82 = .ok (.imul, 1) := by decide +kernel
theorem dX9_misread_83 : decode cX9_misread 83 = .ok (.iload_n 3, 1) := by decide +kernel
theorem dX9_misread_84 : decode cX9_misread 84 = .ok (.iadd, 1) := by decide +kernel
theorem dX9_misread_85 : decode cX9_misread 85 = .ok (.iaload, 1) := by decide +kernel
theorem dX9_misread_86 : decode cX9_misread 86 = .ok (.iload 4, 2) := by decide +kernel
theorem dX9_misread_88 : decode cX9_misread 88 = .ok (.iconst 1, 1) := by decide +kernel
theorem dX9_misread_89 : decode cX9_misread 89 = .ok (.iadd, 1) := by decide +kernel
theorem dX9_misread_90 : decode cX9_misread 90 = .ok (.if_icmp .ne 7, 3) := by decide +kernel
theorem dX9_misread_93 : decode cX9_misread 93 = .ok (.iconst 1, 1) := by decide +kernel
theorem dX9_misread_94 : decode cX9_misread 94 = .ok (.goto 4, 3) := by decide +kernel
theorem dX9_misread_97 : decode cX9_misread 97 = .ok (.iconst 0, 1) := by decide +kernel
theorem dX9_misread_98 : decode cX9_misread 98 = .ok (.iadd, 1) := by decide +kernel
theorem dX9_misread_99 : decode cX9_misread 99 = .ok (.istore 5, 2) := by decide +kernel
theorem dX9_misread_101 : decode cX9_misread 101 = .ok (.iinc 6 1, 3) := by decide +kernel
theorem dX9_misread_104 : decode cX9_misread 104 = .ok (.goto (-51), 3) := by decide +kernel
theorem dX9_misread_107 : decode cX9_misread 107 = .ok (.iload_n 2, 1) := by decide +kernel
theorem dX9_misread_108 : decode cX9_misread 108 = .ok (.iload 4, 2) := by decide +kernel
theorem dX9_misread_110 : decode cX9_misread 110 = .ok (.aload_n 0, 1) := by decide +kernel
theorem dX9_misread_111 : decode cX9_misread 111 = .ok (.getfield 31, 3) := by decide +kernel
theorem dX9_misread_114 : decode cX9_misread 114 = .ok (.iload_n 3, 1) := by decide +kernel
theorem dX9_misread_115 : decode cX9_misread 115 = .ok (.iaload, 1) := by decide +kernel
theorem dX9_misread_116 : decode cX9_misread 116 = .ok (.if_icmp .eq 18, 3) := by decide +kernel
theorem dX9_misread_119 : decode cX9_misread 119 = .ok (.iload 5, 2) := by decide +kernel
theorem dX9_misread_121 : decode cX9_misread 121 = .ok (.iload_n 1, 1) := by decide +kernel
theorem dX9_misread_122 : decode cX9_misread 122 = .ok (.if_icmp .lt 12, 3) := by decide +kernel
theorem dX9_misread_125 : decode cX9_misread 125 = .ok (.aload_n 0, 1) := by decide +kernel
theorem dX9_misread_126 : decode cX9_misread 126 = .ok (.getfield 37, 3) := by decide +kernel
theorem dX9_misread_129 : decode cX9_misread 129 = .ok (.iload_n 3, 1) := by decide +kernel
theorem dX9_misread_130 : decode cX9_misread 130 = .ok (.iaload, 1) := by decide +kernel
theorem dX9_misread_131 : decode cX9_misread 131 = .ok (.goto 4, 3) := by decide +kernel
theorem dX9_misread_134 : decode cX9_misread 134 = .ok (.iconst 0, 1) := by decide +kernel
theorem dX9_misread_135 : decode cX9_misread 135 = .ok (.ior, 1) := by decide +kernel
theorem dX9_misread_136 : decode cX9_misread 136 = .ok (.istore_n 2, 1) := by decide +kernel
theorem dX9_misread_137 : decode cX9_misread 137 = .ok (.iinc 4 1, 3) := by decide +kernel
theorem dX9_misread_140 : decode cX9_misread 140 = .ok (.goto (-112), 3) := by decide +kernel
theorem dX9_misread_143 : decode cX9_misread 143 = .ok (.iinc 3 1, 3) := by decide +kernel
theorem dX9_misread_146 : decode cX9_misread 146 = .ok (.goto (-129), 3) := by decide +kernel
theorem dX9_misread_149 : decode cX9_misread 149 = .ok (.iload_n 2, 1) := by decide +kernel
theorem dX9_misread_150 : decode cX9_misread 150 = .ok (.ireturn, 1) := by decide +kernel
theorem dX9_deal_0 : decode cX9_deal 0 = .ok (.iload_n 1, 1) := by decide +kernel
theorem dX9_deal_1 : decode cX9_deal 1 = .ok (.iconst 1, 1) := by decide +kernel
theorem dX9_deal_2 : decode cX9_deal 2 = .ok (.ldc 149, 2) := by decide +kernel
theorem dX9_deal_4 : decode cX9_deal 4 = .ok (.invokestatic 93, 3) := by decide +kernel
theorem dX9_deal_7 : decode cX9_deal 7 = .ok (.ifCond .ne 6, 3) := by decide +kernel
theorem dX9_deal_10 : decode cX9_deal 10 = .ok (.bipush (-2), 2) := by decide +kernel
theorem dX9_deal_12 : decode cX9_deal 12 = .ok (.ireturn, 1) := by decide +kernel
theorem dX9_deal_13 : decode cX9_deal 13 = .ok (.iload_n 1, 1) := by decide +kernel
theorem dX9_deal_14 : decode cX9_deal 14 = .ok (.i2l, 1) := by decide +kernel
theorem dX9_deal_15 : decode cX9_deal 15 = .ok (.lstore_n 2, 1) := by decide +kernel
theorem dX9_deal_16 : decode cX9_deal 16 = .ok (.iconst 0, 1) := by decide +kernel
theorem dX9_deal_17 : decode cX9_deal 17 = .ok (.istore 4, 2) := by decide +kernel
theorem dX9_deal_19 : decode cX9_deal 19 = .ok (.iconst 0, 1) := by decide +kernel
theorem dX9_deal_20 : decode cX9_deal 20 = .ok (.istore 5, 2) := by decide +kernel
theorem dX9_deal_22 : decode cX9_deal 22 = .ok (.iload 5, 2) := by decide +kernel
theorem dX9_deal_24 : decode cX9_deal 24 = .ok (.aload_n 0, 1) := by decide +kernel
theorem dX9_deal_25 : decode cX9_deal 25 = .ok (.getfield 118, 3) := by decide +kernel
theorem dX9_deal_28 : decode cX9_deal 28 = .ok (.if_icmp .ge 44, 3) := by decide +kernel
theorem dX9_deal_31 : decode cX9_deal 31 = .ok (.lload_n 2, 1) := by decide +kernel
theorem dX9_deal_32 : decode cX9_deal 32 = .ok (.ldc2_w 243, 3) := by decide +kernel
theorem dX9_deal_35 : decode cX9_deal 35 = .ok (.lmul, 1) := by decide +kernel
theorem dX9_deal_36 : decode cX9_deal 36 = .ok (.ldc2_w 245, 3) := by decide +kernel
theorem dX9_deal_39 : decode cX9_deal 39 = .ok (.lrem, 1) := by decide +kernel
theorem dX9_deal_40 : decode cX9_deal 40 = .ok (.lstore_n 2, 1) := by decide +kernel
theorem dX9_deal_41 : decode cX9_deal 41 = .ok (.aload_n 0, 1) := by decide +kernel
theorem dX9_deal_42 : decode cX9_deal 42 = .ok (.getfield 44, 3) := by decide +kernel
theorem dX9_deal_45 : decode cX9_deal 45 = .ok (.iload 5, 2) := by decide +kernel
theorem dX9_deal_47 : decode cX9_deal 47 = .ok (.lload_n 2, 1) := by decide +kernel
theorem dX9_deal_48 : decode cX9_deal 48 = .ok (.ldc2_w 247, 3) := by decide +kernel
theorem dX9_deal_51 : decode cX9_deal 51 = .ok (.lrem, 1) := by decide +kernel
theorem dX9_deal_52 : decode cX9_deal 52 = .ok (.l2i, 1) := by decide +kernel
theorem dX9_deal_53 : decode cX9_deal 53 = .ok (.iastore, 1) := by decide +kernel
theorem dX9_deal_54 : decode cX9_deal 54 = .ok (.iload 4, 2) := by decide +kernel
theorem dX9_deal_56 : decode cX9_deal 56 = .ok (.aload_n 0, 1) := by decide +kernel
theorem dX9_deal_57 : decode cX9_deal 57 = .ok (.getfield 44, 3) := by decide +kernel
theorem dX9_deal_60 : decode cX9_deal 60 = .ok (.iload 5, 2) := by decide +kernel
theorem dX9_deal_62 : decode cX9_deal 62 = .ok (.iaload, 1) := by decide +kernel
theorem dX9_deal_63 : decode cX9_deal 63 = .ok (.iadd, 1) := by decide +kernel
theorem dX9_deal_64 : decode cX9_deal 64 = .ok (.istore 4, 2) := by decide +kernel
theorem dX9_deal_66 : decode cX9_deal 66 = .ok (.iinc 5 1, 3) := by decide +kernel
theorem dX9_deal_69 : decode cX9_deal 69 = .ok (.goto (-47), 3) := by decide +kernel
theorem dX9_deal_72 : decode cX9_deal 72 = .ok (.iload 4, 2) := by decide +kernel
theorem dX9_deal_74 : decode cX9_deal 74 = .ok (.ireturn, 1) := by decide +kernel
theorem dX9_choose_0 : decode cX9_choose 0 = .ok (.iload_n 1, 1) := by decide +kernel
theorem dX9_choose_1 : decode cX9_choose 1 = .ok (.ifCond .lt 8, 3) := by decide +kernel
theorem dX9_choose_4 : decode cX9_choose 4 = .ok (.iload_n 1, 1) := by decide +kernel
theorem dX9_choose_5 : decode cX9_choose 5 = .ok (.iload_n 0, 1) := by decide +kernel
theorem dX9_choose_6 : decode cX9_choose 6 = .ok (.if_icmp .le 7, 3) := by decide +kernel
theorem dX9_choose_9 : decode cX9_choose 9 = .ok (.lconst 0, 1) := by decide +kernel
theorem dX9_choose_10 : decode cX9_choose 10 = .ok (.goto 4, 3) := by decide +kernel
theorem dX9_choose_13 : decode cX9_choose 13 = .ok (.lconst 1, 1) := by decide +kernel
theorem dX9_choose_14 : decode cX9_choose 14 = .ok (.lstore_n 2, 1) := by decide +kernel
theorem dX9_choose_15 : decode cX9_choose 15 = .ok (.iconst 0, 1) := by decide +kernel
theorem dX9_choose_16 : decode cX9_choose 16 = .ok (.istore 4, 2) := by decide +kernel
theorem dX9_choose_18 : decode cX9_choose 18 = .ok (.iload 4, 2) := by decide +kernel
theorem dX9_choose_20 : decode cX9_choose 20 = .ok (.iload_n 1, 1) := by decide +kernel
theorem dX9_choose_21 : decode cX9_choose 21 = .ok (.if_icmp .ge 29, 3) := by decide +kernel
theorem dX9_choose_24 : decode cX9_choose 24 = .ok (.lload_n 2, 1) := by decide +kernel
theorem dX9_choose_25 : decode cX9_choose 25 = .ok (.lconst 0, 1) := by decide +kernel
theorem dX9_choose_26 : decode cX9_choose 26 = .ok (.lcmp, 1) := by decide +kernel
theorem dX9_choose_27 : decode cX9_choose 27 = .ok (.ifCond .le 23, 3) := by decide +kernel
theorem dX9_choose_30 : decode cX9_choose 30 = .ok (.lload_n 2, 1) := by decide +kernel
theorem dX9_choose_31 : decode cX9_choose 31 = .ok (.iload_n 0, 1) := by decide +kernel
theorem dX9_choose_32 : decode cX9_choose 32 = .ok (.iload 4, 2) := by decide +kernel
theorem dX9_choose_34 : decode cX9_choose 34 = .ok (.isub, 1) := by decide +kernel
theorem dX9_choose_35 : decode cX9_choose 35 = .ok (.i2l, 1) := by decide +kernel
theorem dX9_choose_36 : decode cX9_choose 36 = .ok (.lmul, 1) := by decide +kernel
theorem dX9_choose_37 : decode cX9_choose 37 = .ok (.iload 4, 2) := by decide +kernel
theorem dX9_choose_39 : decode cX9_choose 39 = .ok (.iconst 1, 1) := by decide +kernel
theorem dX9_choose_40 : decode cX9_choose 40 = .ok (.iadd, 1) := by decide +kernel
theorem dX9_choose_41 : decode cX9_choose 41 = .ok (.i2l, 1) := by decide +kernel
theorem dX9_choose_42 : decode cX9_choose 42 = .ok (.ldiv, 1) := by decide +kernel
theorem dX9_choose_43 : decode cX9_choose 43 = .ok (.lstore_n 2, 1) := by decide +kernel
theorem dX9_choose_44 : decode cX9_choose 44 = .ok (.iinc 4 1, 3) := by decide +kernel
theorem dX9_choose_47 : decode cX9_choose 47 = .ok (.goto (-29), 3) := by decide +kernel
theorem dX9_choose_50 : decode cX9_choose 50 = .ok (.lload_n 2, 1) := by decide +kernel
theorem dX9_choose_51 : decode cX9_choose 51 = .ok (.lreturn, 1) := by decide +kernel
theorem dX9_better_0 : decode cX9_better 0 = .ok (.iload_n 1, 1) := by decide +kernel
theorem dX9_better_1 : decode cX9_better 1 = .ok (.iconst 0, 1) := by decide +kernel
theorem dX9_better_2 : decode cX9_better 2 = .ok (.iconst 1, 1) := by decide +kernel
theorem dX9_better_3 : decode cX9_better 3 = .ok (.invokestatic 93, 3) := by decide +kernel
theorem dX9_better_6 : decode cX9_better 6 = .ok (.ifCond .ne 7, 3) := by decide +kernel
theorem dX9_better_9 : decode cX9_better 9 = .ok (.ldc2_w 230, 3) := by decide +kernel
theorem dX9_better_12 : decode cX9_better 12 = .ok (.lreturn, 1) := by decide +kernel
theorem dX9_better_13 : decode cX9_better 13 = .ok (.iconst 0, 1) := by decide +kernel
theorem dX9_better_14 : decode cX9_better 14 = .ok (.istore_n 2, 1) := by decide +kernel
theorem dX9_better_15 : decode cX9_better 15 = .ok (.iconst 0, 1) := by decide +kernel
theorem dX9_better_16 : decode cX9_better 16 = .ok (.istore_n 3, 1) := by decide +kernel
theorem dX9_better_17 : decode cX9_better 17 = .ok (.iconst 0, 1) := by decide +kernel
theorem dX9_better_18 : decode cX9_better 18 = .ok (.istore 4, 2) := by decide +kernel
theorem dX9_better_20 : decode cX9_better 20 = .ok (.iconst 0, 1) := by decide +kernel
theorem dX9_better_21 : decode cX9_better 21 = .ok (.istore 5, 2) := by decide +kernel
theorem dX9_better_23 : decode cX9_better 23 = .ok (.iconst 0, 1) := by decide +kernel
theorem dX9_better_24 : decode cX9_better 24 = .ok (.istore 6, 2) := by decide +kernel
theorem dX9_better_26 : decode cX9_better 26 = .ok (.iload 6, 2) := by decide +kernel
theorem dX9_better_28 : decode cX9_better 28 = .ok (.aload_n 0, 1) := by decide +kernel
theorem dX9_better_29 : decode cX9_better 29 = .ok (.getfield 118, 3) := by decide +kernel
theorem dX9_better_32 : decode cX9_better 32 = .ok (.if_icmp .ge 107, 3) := by decide +kernel
theorem dX9_better_35 : decode cX9_better 35 = .ok (.iconst 0, 1) := by decide +kernel
theorem dX9_better_36 : decode cX9_better 36 = .ok (.istore 7, 2) := by decide +kernel
theorem dX9_better_38 : decode cX9_better 38 = .ok (.iload 7, 2) := by decide +kernel
theorem dX9_better_40 : decode cX9_better 40 = .ok (.aload_n 0, 1) := by decide +kernel
theorem dX9_better_41 : decode cX9_better 41 = .ok (.getfield 115, 3) := by decide +kernel
theorem dX9_better_44 : decode cX9_better 44 = .ok (.if_icmp .ge 89, 3) := by decide +kernel
theorem dX9_better_47 : decode cX9_better 47 = .ok (.iload_n 2, 1) := by decide +kernel
theorem dX9_better_48 : decode cX9_better 48 = .ok (.bipush 40, 2) := by decide +kernel
theorem dX9_better_50 : decode cX9_better 50 = .ok (.if_icmp .ge 83, 3) := by decide +kernel
theorem dX9_better_53 : decode cX9_better 53 = .ok (.aload_n 0, 1) := by decide +kernel
theorem dX9_better_54 : decode cX9_better 54 = .ok (.getfield 31, 3) := by decide +kernel
theorem dX9_better_57 : decode cX9_better 57 = .ok (.iload 7, 2) := by decide +kernel
theorem dX9_better_59 : decode cX9_better 59 = .ok (.iaload, 1) := by decide +kernel
theorem dX9_better_60 : decode cX9_better 60 = .ok (.ifCond .lt 67, 3) := by decide +kernel
theorem dX9_better_63 : decode cX9_better 63 = .ok (.aload_n 0, 1) := by decide +kernel
theorem dX9_better_64 : decode cX9_better 64 = .ok (.iload 6, 2) := by decide +kernel
theorem dX9_better_66 : decode cX9_better 66 = .ok (.iload 7, 2) := by decide +kernel
theorem dX9_better_68 : decode cX9_better 68 = .ok (.invokevirtual 159, 3) := by decide +kernel
theorem dX9_better_71 : decode cX9_better 71 = .ok (.ifCond .eq 56, 3) := by decide +kernel
theorem dX9_better_74 : decode cX9_better 74 = .ok (.aload_n 0, 1) := by decide +kernel
theorem dX9_better_75 : decode cX9_better 75 = .ok (.iload 6, 2) := by decide +kernel
theorem dX9_better_77 : decode cX9_better 77 = .ok (.iload 7, 2) := by decide +kernel
theorem dX9_better_79 : decode cX9_better 79 = .ok (.invokevirtual 201, 3) := by decide +kernel
theorem dX9_better_82 : decode cX9_better 82 = .ok (.ifCond .eq 7, 3) := by decide +kernel
theorem dX9_better_85 : decode cX9_better 85 = .ok (.iconst 1, 1) := by decide +kernel
theorem dX9_better_86 : decode cX9_better 86 = .ok (.goto 4, 3) := by decide +kernel
theorem dX9_better_89 : decode cX9_better 89 = .ok (.iconst 0, 1) := by decide +kernel
theorem dX9_better_90 : decode cX9_better 90 = .ok (.istore 8, 2) := by decide +kernel
theorem dX9_better_92 : decode cX9_better 92 = .ok (.iinc 2 1, 3) := by decide +kernel
theorem dX9_better_95 : decode cX9_better 95 = .ok (.iload_n 3, 1) := by decide +kernel
theorem dX9_better_96 : decode cX9_better 96 = .ok (.iload 8, 2) := by decide +kernel
theorem dX9_better_98 : decode cX9_better 98 = .ok (.iadd, 1) := by decide +kernel
theorem dX9_better_99 : decode cX9_better 99 = .ok (.istore_n 3, 1) := by decide +kernel
theorem dX9_better_100 : decode cX9_better 100 = .ok (.iload 4, 2) := by decide +kernel
theorem dX9_better_102 : decode cX9_better 102 = .ok (.aload_n 0, 1) := by decide +kernel
theorem dX9_better_103 : decode cX9_better 103 = .ok (.getfield 44, 3) := by decide +kernel
theorem dX9_better_106 : decode cX9_better 106 = .ok (.iload 6, 2) := by decide +kernel
theorem dX9_better_108 : decode cX9_better 108 = .ok (.iaload, 1) := by decide +kernel
theorem dX9_better_109 : decode cX9_better 109 = .ok (.iadd, 1) := by decide +kernel
theorem dX9_better_110 : decode cX9_better 110 = .ok (.istore 4, 2) := by decide +kernel
theorem dX9_better_112 : decode cX9_better 112 = .ok (.iload 5, 2) := by decide +kernel
theorem dX9_better_114 : decode cX9_better 114 = .ok (.aload_n 0, 1) := by decide +kernel
theorem dX9_better_115 : decode cX9_better 115 = .ok (.getfield 44, 3) := by decide +kernel
theorem dX9_better_118 : decode cX9_better 118 = .ok (.iload 6, 2) := by decide +kernel
theorem dX9_better_120 : decode cX9_better 120 = .ok (.iaload, 1) := by decide +kernel
theorem dX9_better_121 : decode cX9_better 121 = .ok (.iload 8, 2) := by decide +kernel
theorem dX9_better_123 : decode cX9_better 123 = .ok (.imul, 1) := by decide +kernel
theorem dX9_better_124 : decode cX9_better 124 = .ok (.iadd, 1) := by decide +kernel
theorem dX9_better_125 : decode cX9_better 125 = .ok (.istore 5, 2) := by decide +kernel
theorem dX9_better_127 : decode cX9_better 127 = .ok (.iinc 7 1, 3) := by decide +kernel
theorem dX9_better_130 : decode cX9_better 130 = .ok (.goto (-92), 3) := by decide +kernel
theorem dX9_better_133 : decode cX9_better 133 = .ok (.iinc 6 1, 3) := by decide +kernel
theorem dX9_better_136 : decode cX9_better 136 = .ok (.goto (-110), 3) := by decide +kernel
theorem dX9_better_139 : decode cX9_better 139 = .ok (.lconst 0, 1) := by decide +kernel
theorem dX9_better_140 : decode cX9_better 140 = .ok (.lstore 6, 2) := by decide +kernel
theorem dX9_better_142 : decode cX9_better 142 = .ok (.iload 5, 2) := by decide +kernel
theorem dX9_better_144 : decode cX9_better 144 = .ok (.istore 8, 2) := by decide +kernel
theorem dX9_better_146 : decode cX9_better 146 = .ok (.iload 8, 2) := by decide +kernel
theorem dX9_better_148 : decode cX9_better 148 = .ok (.iload 4, 2) := by decide +kernel
theorem dX9_better_150 : decode cX9_better 150 = .ok (.if_icmp .gt 39, 3) := by decide +kernel
theorem dX9_better_153 : decode cX9_better 153 = .ok (.iload 8, 2) := by decide +kernel
theorem dX9_better_155 : decode cX9_better 155 = .ok (.iload_n 3, 1) := by decide +kernel
theorem dX9_better_156 : decode cX9_better 156 = .ok (.if_icmp .gt 33, 3) := by decide +kernel
theorem dX9_better_159 : decode cX9_better 159 = .ok (.lload 6, 2) := by decide +kernel
theorem dX9_better_161 : decode cX9_better 161 = .ok (.iload 4, 2) := by decide +kernel
theorem dX9_better_163 : decode cX9_better 163 = .ok (.iload 8, 2) := by decide +kernel
theorem dX9_better_165 : decode cX9_better 165 = .ok (.invokestatic 249, 3) := by decide +kernel
theorem dX9_better_168 : decode cX9_better 168 = .ok (.iload_n 2, 1) := by decide +kernel
theorem dX9_better_169 : decode cX9_better 169 = .ok (.iload 4, 2) := by decide +kernel
theorem dX9_better_171 : decode cX9_better 171 = .ok (.isub, 1) := by decide +kernel
theorem dX9_better_172 : decode cX9_better 172 = .ok (.iload_n 3, 1) := by decide +kernel
theorem dX9_better_173 : decode cX9_better 173 = .ok (.iload 8, 2) := by decide +kernel
theorem dX9_better_175 : decode cX9_better 175 = .ok (.isub, 1) := by decide +kernel
theorem dX9_better_176 : decode cX9_better 176 = .ok (.invokestatic 249, 3) := by decide +kernel
theorem dX9_better_179 : decode cX9_better 179 = .ok (.lmul, 1) := by decide +kernel
theorem dX9_better_180 : decode cX9_better 180 = .ok (.ladd, 1) := by decide +kernel
theorem dX9_better_181 : decode cX9_better 181 = .ok (.lstore 6, 2) := by decide +kernel
theorem dX9_better_183 : decode cX9_better 183 = .ok (.iinc 8 1, 3) := by decide +kernel
theorem dX9_better_186 : decode cX9_better 186 = .ok (.goto (-40), 3) := by decide +kernel
theorem dX9_better_189 : decode cX9_better 189 = .ok (.lload 6, 2) := by decide +kernel
theorem dX9_better_191 : decode cX9_better 191 = .ok (.iload_n 2, 1) := by decide +kernel
theorem dX9_better_192 : decode cX9_better 192 = .ok (.iload_n 3, 1) := by decide +kernel
theorem dX9_better_193 : decode cX9_better 193 = .ok (.invokestatic 249, 3) := by decide +kernel
theorem dX9_better_196 : decode cX9_better 196 = .ok (.iload_n 1, 1) := by decide +kernel
theorem dX9_better_197 : decode cX9_better 197 = .ok (.invokestatic 224, 3) := by decide +kernel
theorem dX9_better_200 : decode cX9_better 200 = .ok (.lreturn, 1) := by decide +kernel
theorem dX9_laidEnd_0 : decode cX9_laidEnd 0 = .ok (.iconst 0, 1) := by decide +kernel
theorem dX9_laidEnd_1 : decode cX9_laidEnd 1 = .ok (.istore_n 2, 1) := by decide +kernel
theorem dX9_laidEnd_2 : decode cX9_laidEnd 2 = .ok (.iconst 1, 1) := by decide +kernel
theorem dX9_laidEnd_3 : decode cX9_laidEnd 3 = .ok (.istore_n 3, 1) := by decide +kernel
theorem dX9_laidEnd_4 : decode cX9_laidEnd 4 = .ok (.iload_n 3, 1) := by decide +kernel
theorem dX9_laidEnd_5 : decode cX9_laidEnd 5 = .ok (.aload_n 0, 1) := by decide +kernel
theorem dX9_laidEnd_6 : decode cX9_laidEnd 6 = .ok (.iload_n 1, 1) := by decide +kernel
theorem dX9_laidEnd_7 : decode cX9_laidEnd 7 = .ok (.invokevirtual 138, 3) := by decide +kernel
theorem dX9_laidEnd_10 : decode cX9_laidEnd 10 = .ok (.if_icmp .ge 38, 3) := by decide +kernel
theorem dX9_laidEnd_13 : decode cX9_laidEnd 13 = .ok (.aload_n 0, 1) := by decide +kernel
theorem dX9_laidEnd_14 : decode cX9_laidEnd 14 = .ok (.getfield 59, 3) := by decide +kernel
theorem dX9_laidEnd_17 : decode cX9_laidEnd 17 = .ok (.iconst 4, 1) := by decide +kernel
theorem dX9_laidEnd_18 : decode cX9_laidEnd 18 = .ok (.iload_n 1, 1) := by decide +kernel
theorem dX9_laidEnd_19 : decode cX9_laidEnd 19 = .ok (.imul, 1) := by decide +kernel
theorem dX9_laidEnd_20 : decode cX9_laidEnd 20 = .ok (.iload_n 3, 1) := by decide +kernel
theorem dX9_laidEnd_21 : decode cX9_laidEnd 21 = .ok (.iadd, 1) := by decide +kernel
theorem dX9_laidEnd_22 : decode cX9_laidEnd 22 = .ok (.iaload, 1) := by decide +kernel
theorem dX9_laidEnd_23 : decode cX9_laidEnd 23 = .ok (.aload_n 0, 1) := by decide +kernel
theorem dX9_laidEnd_24 : decode cX9_laidEnd 24 = .ok (.getfield 59, 3) := by decide +kernel
theorem dX9_laidEnd_27 : decode cX9_laidEnd 27 = .ok (.iconst 4, 1) := by decide +kernel
theorem dX9_laidEnd_28 : decode cX9_laidEnd 28 = .ok (.iload_n 1, 1) := by decide +kernel
theorem dX9_laidEnd_29 : decode cX9_laidEnd 29 = .ok (.imul, 1) := by decide +kernel
theorem dX9_laidEnd_30 : decode cX9_laidEnd 30 = .ok (.iload_n 2, 1) := by decide +kernel
theorem dX9_laidEnd_31 : decode cX9_laidEnd 31 = .ok (.iadd, 1) := by decide +kernel
theorem dX9_laidEnd_32 : decode cX9_laidEnd 32 = .ok (.iaload, 1) := by decide +kernel
theorem dX9_laidEnd_33 : decode cX9_laidEnd 33 = .ok (.if_icmp .le 7, 3) := by decide +kernel
theorem dX9_laidEnd_36 : decode cX9_laidEnd 36 = .ok (.iload_n 3, 1) := by decide +kernel
theorem dX9_laidEnd_37 : decode cX9_laidEnd 37 = .ok (.goto 4, 3) := by decide +kernel
theorem dX9_laidEnd_40 : decode cX9_laidEnd 40 = .ok (.iload_n 2, 1) := by decide +kernel
theorem dX9_laidEnd_41 : decode cX9_laidEnd 41 = .ok (.istore_n 2, 1) := by decide +kernel
theorem dX9_laidEnd_42 : decode cX9_laidEnd 42 = .ok (.iinc 3 1, 3) := by decide +kernel
theorem dX9_laidEnd_45 : decode cX9_laidEnd 45 = .ok (.goto (-41), 3) := by decide +kernel
theorem dX9_laidEnd_48 : decode cX9_laidEnd 48 = .ok (.iload_n 2, 1) := by decide +kernel
theorem dX9_laidEnd_49 : decode cX9_laidEnd 49 = .ok (.ireturn, 1) := by decide +kernel
theorem dX9_lean_0 : decode cX9_lean 0 = .ok (.aload_n 0, 1) := by decide +kernel
theorem dX9_lean_1 : decode cX9_lean 1 = .ok (.iload_n 1, 1) := by decide +kernel
theorem dX9_lean_2 : decode cX9_lean 2 = .ok (.invokevirtual 168, 3) := by decide +kernel
theorem dX9_lean_5 : decode cX9_lean 5 = .ok (.ifCond .ne 5, 3) := by decide +kernel
theorem dX9_lean_8 : decode cX9_lean 8 = .ok (.iconst (-1), 1) := by decide +kernel
theorem dX9_lean_9 : decode cX9_lean 9 = .ok (.ireturn, 1) := by decide +kernel
theorem dX9_lean_10 : decode cX9_lean 10 = .ok (.iconst 0, 1) := by decide +kernel
theorem dX9_lean_11 : decode cX9_lean 11 = .ok (.istore_n 2, 1) := by decide +kernel
theorem dX9_lean_12 : decode cX9_lean 12 = .ok (.iload_n 2, 1) := by decide +kernel
theorem dX9_lean_13 : decode cX9_lean 13 = .ok (.bipush 96, 2) := by decide +kernel
theorem dX9_lean_15 : decode cX9_lean 15 = .ok (.if_icmp .ge 21, 3) := by decide +kernel
theorem dX9_lean_18 : decode cX9_lean 18 = .ok (.aload_n 0, 1) := by decide +kernel
theorem dX9_lean_19 : decode cX9_lean 19 = .ok (.getfield 65, 3) := by decide +kernel
theorem dX9_lean_22 : decode cX9_lean 22 = .ok (.iload_n 2, 1) := by decide +kernel
theorem dX9_lean_23 : decode cX9_lean 23 = .ok (.aload_n 0, 1) := by decide +kernel
theorem dX9_lean_24 : decode cX9_lean 24 = .ok (.getfield 59, 3) := by decide +kernel
theorem dX9_lean_27 : decode cX9_lean 27 = .ok (.iload_n 2, 1) := by decide +kernel
theorem dX9_lean_28 : decode cX9_lean 28 = .ok (.iaload, 1) := by decide +kernel
theorem dX9_lean_29 : decode cX9_lean 29 = .ok (.iastore, 1) := by decide +kernel
theorem dX9_lean_30 : decode cX9_lean 30 = .ok (.iinc 2 1, 3) := by decide +kernel
theorem dX9_lean_33 : decode cX9_lean 33 = .ok (.goto (-21), 3) := by decide +kernel
theorem dX9_lean_36 : decode cX9_lean 36 = .ok (.iconst 0, 1) := by decide +kernel
theorem dX9_lean_37 : decode cX9_lean 37 = .ok (.istore_n 2, 1) := by decide +kernel
theorem dX9_lean_38 : decode cX9_lean 38 = .ok (.iload_n 2, 1) := by decide +kernel
theorem dX9_lean_39 : decode cX9_lean 39 = .ok (.sipush 480, 3) := by decide +kernel
theorem dX9_lean_42 : decode cX9_lean 42 = .ok (.if_icmp .ge 21, 3) := by decide +kernel
theorem dX9_lean_45 : decode cX9_lean 45 = .ok (.aload_n 0, 1) := by decide +kernel
theorem dX9_lean_46 : decode cX9_lean 46 = .ok (.getfield 68, 3) := by decide +kernel
theorem dX9_lean_49 : decode cX9_lean 49 = .ok (.iload_n 2, 1) := by decide +kernel
theorem dX9_lean_50 : decode cX9_lean 50 = .ok (.aload_n 0, 1) := by decide +kernel
theorem dX9_lean_51 : decode cX9_lean 51 = .ok (.getfield 62, 3) := by decide +kernel
theorem dX9_lean_54 : decode cX9_lean 54 = .ok (.iload_n 2, 1) := by decide +kernel
theorem dX9_lean_55 : decode cX9_lean 55 = .ok (.iaload, 1) := by decide +kernel
theorem dX9_lean_56 : decode cX9_lean 56 = .ok (.iastore, 1) := by decide +kernel
theorem dX9_lean_57 : decode cX9_lean 57 = .ok (.iinc 2 1, 3) := by decide +kernel
theorem dX9_lean_60 : decode cX9_lean 60 = .ok (.goto (-22), 3) := by decide +kernel
theorem dX9_lean_63 : decode cX9_lean 63 = .ok (.aload_n 0, 1) := by decide +kernel
theorem dX9_lean_64 : decode cX9_lean 64 = .ok (.getfield 40, 3) := by decide +kernel
theorem dX9_lean_67 : decode cX9_lean 67 = .ok (.iload_n 1, 1) := by decide +kernel
theorem dX9_lean_68 : decode cX9_lean 68 = .ok (.baload, 1) := by decide +kernel
theorem dX9_lean_69 : decode cX9_lean 69 = .ok (.istore_n 2, 1) := by decide +kernel
theorem dX9_lean_70 : decode cX9_lean 70 = .ok (.aload_n 0, 1) := by decide +kernel
theorem dX9_lean_71 : decode cX9_lean 71 = .ok (.getfield 40, 3) := by decide +kernel
theorem dX9_lean_74 : decode cX9_lean 74 = .ok (.iload_n 1, 1) := by decide +kernel
theorem dX9_lean_75 : decode cX9_lean 75 = .ok (.iconst 0, 1) := by decide +kernel
theorem dX9_lean_76 : decode cX9_lean 76 = .ok (.bastore, 1) := by decide +kernel
theorem dX9_lean_77 : decode cX9_lean 77 = .ok (.aload_n 0, 1) := by decide +kernel
theorem dX9_lean_78 : decode cX9_lean 78 = .ok (.invokevirtual 195, 3) := by decide +kernel
theorem dX9_lean_81 : decode cX9_lean 81 = .ok (.pop, 1) := by decide +kernel
theorem dX9_lean_82 : decode cX9_lean 82 = .ok (.iconst 0, 1) := by decide +kernel
theorem dX9_lean_83 : decode cX9_lean 83 = .ok (.istore_n 3, 1) := by decide +kernel
theorem dX9_lean_84 : decode cX9_lean 84 = .ok (.iload_n 3, 1) := by decide +kernel
theorem dX9_lean_85 : decode cX9_lean 85 = .ok (.aload_n 0, 1) := by decide +kernel
theorem dX9_lean_86 : decode cX9_lean 86 = .ok (.getfield 115, 3) := by decide +kernel
theorem dX9_lean_89 : decode cX9_lean 89 = .ok (.if_icmp .ge 20, 3) := by decide +kernel
theorem dX9_lean_92 : decode cX9_lean 92 = .ok (.aload_n 0, 1) := by decide +kernel
theorem dX9_lean_93 : decode cX9_lean 93 = .ok (.getfield 90, 3) := by decide +kernel
theorem dX9_lean_96 : decode cX9_lean 96 = .ok (.iload_n 3, 1) := by decide +kernel
theorem dX9_lean_97 : decode cX9_lean 97 = .ok (.aload_n 0, 1) := by decide +kernel
theorem dX9_lean_98 : decode cX9_lean 98 = .ok (.iload_n 3, 1) := by decide +kernel
theorem dX9_lean_99 : decode cX9_lean 99 = .ok (.invokevirtual 252, 3) := by decide +kernel
theorem dX9_lean_102 : decode cX9_lean 102 = .ok (.iastore, 1) := by decide +kernel
theorem dX9_lean_103 : decode cX9_lean 103 = .ok (.iinc 3 1, 3) := by decide +kernel
theorem dX9_lean_106 : decode cX9_lean 106 = .ok (.goto (-22), 3) := by decide +kernel
theorem dX9_lean_109 : decode cX9_lean 109 = .ok (.aload_n 0, 1) := by decide +kernel
theorem dX9_lean_110 : decode cX9_lean 110 = .ok (.getfield 40, 3) := by decide +kernel
theorem dX9_lean_113 : decode cX9_lean 113 = .ok (.iload_n 1, 1) := by decide +kernel
theorem dX9_lean_114 : decode cX9_lean 114 = .ok (.iconst 1, 1) := by decide +kernel
theorem dX9_lean_115 : decode cX9_lean 115 = .ok (.bastore, 1) := by decide +kernel
theorem dX9_lean_116 : decode cX9_lean 116 = .ok (.aload_n 0, 1) := by decide +kernel
theorem dX9_lean_117 : decode cX9_lean 117 = .ok (.invokevirtual 195, 3) := by decide +kernel
theorem dX9_lean_120 : decode cX9_lean 120 = .ok (.pop, 1) := by decide +kernel
theorem dX9_lean_121 : decode cX9_lean 121 = .ok (.iconst 0, 1) := by decide +kernel
theorem dX9_lean_122 : decode cX9_lean 122 = .ok (.istore_n 3, 1) := by decide +kernel
theorem dX9_lean_123 : decode cX9_lean 123 = .ok (.iconst 0, 1) := by decide +kernel
theorem dX9_lean_124 : decode cX9_lean 124 = .ok (.istore 4, 2) := by decide +kernel
theorem dX9_lean_126 : decode cX9_lean 126 = .ok (.iload 4, 2) := by decide +kernel
theorem dX9_lean_128 : decode cX9_lean 128 = .ok (.aload_n 0, 1) := by decide +kernel
theorem dX9_lean_129 : decode cX9_lean 129 = .ok (.getfield 115, 3) := by decide +kernel
theorem dX9_lean_132 : decode cX9_lean 132 = .ok (.if_icmp .ge 36, 3) := by decide +kernel
theorem dX9_lean_135 : decode cX9_lean 135 = .ok (.iload_n 3, 1) := by decide +kernel
theorem dX9_lean_136 : decode cX9_lean 136 = .ok (.aload_n 0, 1) := by decide +kernel
theorem dX9_lean_137 : decode cX9_lean 137 = .ok (.iload 4, 2) := by decide +kernel
theorem dX9_lean_139 : decode cX9_lean 139 = .ok (.invokevirtual 252, 3) := by decide +kernel
theorem dX9_lean_142 : decode cX9_lean 142 = .ok (.aload_n 0, 1) := by decide +kernel
theorem dX9_lean_143 : decode cX9_lean 143 = .ok (.getfield 90, 3) := by decide +kernel
theorem dX9_lean_146 : decode cX9_lean 146 = .ok (.iload 4, 2) := by decide +kernel
theorem dX9_lean_148 : decode cX9_lean 148 = .ok (.iaload, 1) := by decide +kernel
theorem dX9_lean_149 : decode cX9_lean 149 = .ok (.if_icmp .ne 7, 3) := by decide +kernel
theorem dX9_lean_152 : decode cX9_lean 152 = .ok (.iconst 0, 1) := by decide +kernel
theorem dX9_lean_153 : decode cX9_lean 153 = .ok (.goto 7, 3) := by decide +kernel
theorem dX9_lean_156 : decode cX9_lean 156 = .ok (.iconst 1, 1) := by decide +kernel
theorem dX9_lean_157 : decode cX9_lean 157 = .ok (.iload 4, 2) := by decide +kernel
theorem dX9_lean_159 : decode cX9_lean 159 = .ok (.ishl, 1) := by decide +kernel
theorem dX9_lean_160 : decode cX9_lean 160 = .ok (.ior, 1) := by decide +kernel
theorem dX9_lean_161 : decode cX9_lean 161 = .ok (.istore_n 3, 1) := by decide +kernel
theorem dX9_lean_162 : decode cX9_lean 162 = .ok (.iinc 4 1, 3) := by decide +kernel
theorem dX9_lean_165 : decode cX9_lean 165 = .ok (.goto (-39), 3) := by decide +kernel
theorem dX9_lean_168 : decode cX9_lean 168 = .ok (.aload_n 0, 1) := by decide +kernel
theorem dX9_lean_169 : decode cX9_lean 169 = .ok (.getfield 40, 3) := by decide +kernel
theorem dX9_lean_172 : decode cX9_lean 172 = .ok (.iload_n 1, 1) := by decide +kernel
theorem dX9_lean_173 : decode cX9_lean 173 = .ok (.iload_n 2, 1) := by decide +kernel
theorem dX9_lean_174 : decode cX9_lean 174 = .ok (.bastore, 1) := by decide +kernel
theorem dX9_lean_175 : decode cX9_lean 175 = .ok (.iconst 0, 1) := by decide +kernel
theorem dX9_lean_176 : decode cX9_lean 176 = .ok (.istore 4, 2) := by decide +kernel
theorem dX9_lean_178 : decode cX9_lean 178 = .ok (.iload 4, 2) := by decide +kernel
theorem dX9_lean_180 : decode cX9_lean 180 = .ok (.bipush 96, 2) := by decide +kernel
theorem dX9_lean_182 : decode cX9_lean 182 = .ok (.if_icmp .ge 23, 3) := by decide +kernel
theorem dX9_lean_185 : decode cX9_lean 185 = .ok (.aload_n 0, 1) := by decide +kernel
theorem dX9_lean_186 : decode cX9_lean 186 = .ok (.getfield 59, 3) := by decide +kernel
theorem dX9_lean_189 : decode cX9_lean 189 = .ok (.iload 4, 2) := by decide +kernel
theorem dX9_lean_191 : decode cX9_lean 191 = .ok (.aload_n 0, 1) := by decide +kernel
theorem dX9_lean_192 : decode cX9_lean 192 = .ok (.getfield 65, 3) := by decide +kernel
theorem dX9_lean_195 : decode cX9_lean 195 = .ok (.iload 4, 2) := by decide +kernel
theorem dX9_lean_197 : decode cX9_lean 197 = .ok (.iaload, 1) := by decide +kernel
theorem dX9_lean_198 : decode cX9_lean 198 = .ok (.iastore, 1) := by decide +kernel
theorem dX9_lean_199 : decode cX9_lean 199 = .ok (.iinc 4 1, 3) := by decide +kernel
theorem dX9_lean_202 : decode cX9_lean 202 = .ok (.goto (-24), 3) := by decide +kernel
theorem dX9_lean_205 : decode cX9_lean 205 = .ok (.iconst 0, 1) := by decide +kernel
theorem dX9_lean_206 : decode cX9_lean 206 = .ok (.istore 4, 2) := by decide +kernel
theorem dX9_lean_208 : decode cX9_lean 208 = .ok (.iload 4, 2) := by decide +kernel
theorem dX9_lean_210 : decode cX9_lean 210 = .ok (.sipush 480, 3) := by decide +kernel
theorem dX9_lean_213 : decode cX9_lean 213 = .ok (.if_icmp .ge 23, 3) := by decide +kernel
theorem dX9_lean_216 : decode cX9_lean 216 = .ok (.aload_n 0, 1) := by decide +kernel
theorem dX9_lean_217 : decode cX9_lean 217 = .ok (.getfield 62, 3) := by decide +kernel
theorem dX9_lean_220 : decode cX9_lean 220 = .ok (.iload 4, 2) := by decide +kernel
theorem dX9_lean_222 : decode cX9_lean 222 = .ok (.aload_n 0, 1) := by decide +kernel
theorem dX9_lean_223 : decode cX9_lean 223 = .ok (.getfield 68, 3) := by decide +kernel
theorem dX9_lean_226 : decode cX9_lean 226 = .ok (.iload 4, 2) := by decide +kernel
theorem dX9_lean_228 : decode cX9_lean 228 = .ok (.iaload, 1) := by decide +kernel
theorem dX9_lean_229 : decode cX9_lean 229 = .ok (.iastore, 1) := by decide +kernel
theorem dX9_lean_230 : decode cX9_lean 230 = .ok (.iinc 4 1, 3) := by decide +kernel
theorem dX9_lean_233 : decode cX9_lean 233 = .ok (.goto (-25), 3) := by decide +kernel
theorem dX9_lean_236 : decode cX9_lean 236 = .ok (.iload_n 3, 1) := by decide +kernel
theorem dX9_lean_237 : decode cX9_lean 237 = .ok (.ireturn, 1) := by decide +kernel
theorem dX9_coins_0 : decode cX9_coins 0 = .ok (.aload_n 0, 1) := by decide +kernel
theorem dX9_coins_1 : decode cX9_coins 1 = .ok (.iload_n 1, 1) := by decide +kernel
theorem dX9_coins_2 : decode cX9_coins 2 = .ok (.invokevirtual 168, 3) := by decide +kernel
theorem dX9_coins_5 : decode cX9_coins 5 = .ok (.ifCond .ne 5, 3) := by decide +kernel
theorem dX9_coins_8 : decode cX9_coins 8 = .ok (.iconst (-1), 1) := by decide +kernel
theorem dX9_coins_9 : decode cX9_coins 9 = .ok (.ireturn, 1) := by decide +kernel
theorem dX9_coins_10 : decode cX9_coins 10 = .ok (.aload_n 0, 1) := by decide +kernel
theorem dX9_coins_11 : decode cX9_coins 11 = .ok (.getfield 50, 3) := by decide +kernel
theorem dX9_coins_14 : decode cX9_coins 14 = .ok (.iconst 3, 1) := by decide +kernel
theorem dX9_coins_15 : decode cX9_coins 15 = .ok (.iaload, 1) := by decide +kernel
theorem dX9_coins_16 : decode cX9_coins 16 = .ok (.aload_n 0, 1) := by decide +kernel
theorem dX9_coins_17 : decode cX9_coins 17 = .ok (.iload_n 1, 1) := by decide +kernel
theorem dX9_coins_18 : decode cX9_coins 18 = .ok (.invokevirtual 204, 3) := by decide +kernel
theorem dX9_coins_21 : decode cX9_coins 21 = .ok (.imul, 1) := by decide +kernel
theorem dX9_coins_22 : decode cX9_coins 22 = .ok (.aload_n 0, 1) := by decide +kernel
theorem dX9_coins_23 : decode cX9_coins 23 = .ok (.getfield 50, 3) := by decide +kernel
theorem dX9_coins_26 : decode cX9_coins 26 = .ok (.iconst 4, 1) := by decide +kernel
theorem dX9_coins_27 : decode cX9_coins 27 = .ok (.iaload, 1) := by decide +kernel
theorem dX9_coins_28 : decode cX9_coins 28 = .ok (.aload_n 0, 1) := by decide +kernel
theorem dX9_coins_29 : decode cX9_coins 29 = .ok (.iload_n 1, 1) := by decide +kernel
theorem dX9_coins_30 : decode cX9_coins 30 = .ok (.invokevirtual 210, 3) := by decide +kernel
theorem dX9_coins_33 : decode cX9_coins 33 = .ok (.imul, 1) := by decide +kernel
theorem dX9_coins_34 : decode cX9_coins 34 = .ok (.iadd, 1) := by decide +kernel
theorem dX9_coins_35 : decode cX9_coins 35 = .ok (.aload_n 0, 1) := by decide +kernel
theorem dX9_coins_36 : decode cX9_coins 36 = .ok (.getfield 50, 3) := by decide +kernel
theorem dX9_coins_39 : decode cX9_coins 39 = .ok (.iconst 5, 1) := by decide +kernel
theorem dX9_coins_40 : decode cX9_coins 40 = .ok (.iaload, 1) := by decide +kernel
theorem dX9_coins_41 : decode cX9_coins 41 = .ok (.aload_n 0, 1) := by decide +kernel
theorem dX9_coins_42 : decode cX9_coins 42 = .ok (.iload_n 1, 1) := by decide +kernel
theorem dX9_coins_43 : decode cX9_coins 43 = .ok (.invokevirtual 207, 3) := by decide +kernel
theorem dX9_coins_46 : decode cX9_coins 46 = .ok (.aload_n 0, 1) := by decide +kernel
theorem dX9_coins_47 : decode cX9_coins 47 = .ok (.iload_n 1, 1) := by decide +kernel
theorem dX9_coins_48 : decode cX9_coins 48 = .ok (.invokevirtual 210, 3) := by decide +kernel
theorem dX9_coins_51 : decode cX9_coins 51 = .ok (.isub, 1) := by decide +kernel
theorem dX9_coins_52 : decode cX9_coins 52 = .ok (.imul, 1) := by decide +kernel
theorem dX9_coins_53 : decode cX9_coins 53 = .ok (.isub, 1) := by decide +kernel
theorem dX9_coins_54 : decode cX9_coins 54 = .ok (.istore_n 2, 1) := by decide +kernel
theorem dX9_coins_55 : decode cX9_coins 55 = .ok (.iload_n 2, 1) := by decide +kernel
theorem dX9_coins_56 : decode cX9_coins 56 = .ok (.ifCond .ge 7, 3) := by decide +kernel
theorem dX9_coins_59 : decode cX9_coins 59 = .ok (.iconst 0, 1) := by decide +kernel
theorem dX9_coins_60 : decode cX9_coins 60 = .ok (.goto 4, 3) := by decide +kernel
theorem dX9_coins_63 : decode cX9_coins 63 = .ok (.iload_n 2, 1) := by decide +kernel
theorem dX9_coins_64 : decode cX9_coins 64 = .ok (.ireturn, 1) := by decide +kernel
theorem dX9_isPay_0 : decode cX9_isPay 0 = .ok (.iload_n 0, 1) := by decide +kernel
theorem dX9_isPay_1 : decode cX9_isPay 1 = .ok (.sipush (-1000), 3) := by decide +kernel
theorem dX9_isPay_4 : decode cX9_isPay 4 = .ok (.sipush 1000, 3) := by decide +kernel
theorem dX9_isPay_7 : decode cX9_isPay 7 = .ok (.invokestatic 93, 3) := by decide +kernel
theorem dX9_isPay_10 : decode cX9_isPay 10 = .ok (.ireturn, 1) := by decide +kernel
theorem dX9_pays_0 : decode cX9_pays 0 = .ok (.iload_n 1, 1) := by decide +kernel
theorem dX9_pays_1 : decode cX9_pays 1 = .ok (.iconst 0, 1) := by decide +kernel
theorem dX9_pays_2 : decode cX9_pays 2 = .ok (.bipush 20, 2) := by decide +kernel
theorem dX9_pays_4 : decode cX9_pays 4 = .ok (.invokestatic 93, 3) := by decide +kernel
theorem dX9_pays_7 : decode cX9_pays 7 = .ok (.ifCond .eq 17, 3) := by decide +kernel
theorem dX9_pays_10 : decode cX9_pays 10 = .ok (.iload_n 2, 1) := by decide +kernel
theorem dX9_pays_11 : decode cX9_pays 11 = .ok (.invokestatic 255, 3) := by decide +kernel
theorem dX9_pays_14 : decode cX9_pays 14 = .ok (.ifCond .eq 10, 3) := by decide +kernel
theorem dX9_pays_17 : decode cX9_pays 17 = .ok (.iload_n 3, 1) := by decide +kernel
theorem dX9_pays_18 : decode cX9_pays 18 = .ok (.invokestatic 255, 3) := by decide +kernel
theorem dX9_pays_21 : decode cX9_pays 21 = .ok (.ifCond .ne 6, 3) := by decide +kernel
theorem dX9_pays_24 : decode cX9_pays 24 = .ok (.bipush (-2), 2) := by decide +kernel
theorem dX9_pays_26 : decode cX9_pays 26 = .ok (.ireturn, 1) := by decide +kernel
theorem dX9_pays_27 : decode cX9_pays 27 = .ok (.aload_n 0, 1) := by decide +kernel
theorem dX9_pays_28 : decode cX9_pays 28 = .ok (.getfield 53, 3) := by decide +kernel
theorem dX9_pays_31 : decode cX9_pays 31 = .ok (.iload_n 1, 1) := by decide +kernel
theorem dX9_pays_32 : decode cX9_pays 32 = .ok (.iload_n 2, 1) := by decide +kernel
theorem dX9_pays_33 : decode cX9_pays 33 = .ok (.iastore, 1) := by decide +kernel
theorem dX9_pays_34 : decode cX9_pays 34 = .ok (.aload_n 0, 1) := by decide +kernel
theorem dX9_pays_35 : decode cX9_pays 35 = .ok (.getfield 56, 3) := by decide +kernel
theorem dX9_pays_38 : decode cX9_pays 38 = .ok (.iload_n 1, 1) := by decide +kernel
theorem dX9_pays_39 : decode cX9_pays 39 = .ok (.iload_n 3, 1) := by decide +kernel
theorem dX9_pays_40 : decode cX9_pays 40 = .ok (.iastore, 1) := by decide +kernel
theorem dX9_pays_41 : decode cX9_pays 41 = .ok (.iconst 1, 1) := by decide +kernel
theorem dX9_pays_42 : decode cX9_pays 42 = .ok (.ireturn, 1) := by decide +kernel
theorem dX9_brings_0 : decode cX9_brings 0 = .ok (.iload_n 1, 1) := by decide +kernel
theorem dX9_brings_1 : decode cX9_brings 1 = .ok (.aload_n 0, 1) := by decide +kernel
theorem dX9_brings_2 : decode cX9_brings 2 = .ok (.getfield 53, 3) := by decide +kernel
theorem dX9_brings_5 : decode cX9_brings 5 = .ok (.iload_n 2, 1) := by decide +kernel
theorem dX9_brings_6 : decode cX9_brings 6 = .ok (.iaload, 1) := by decide +kernel
theorem dX9_brings_7 : decode cX9_brings 7 = .ok (.imul, 1) := by decide +kernel
theorem dX9_brings_8 : decode cX9_brings 8 = .ok (.bipush 20, 2) := by decide +kernel
theorem dX9_brings_10 : decode cX9_brings 10 = .ok (.iload_n 1, 1) := by decide +kernel
theorem dX9_brings_11 : decode cX9_brings 11 = .ok (.isub, 1) := by decide +kernel
theorem dX9_brings_12 : decode cX9_brings 12 = .ok (.aload_n 0, 1) := by decide +kernel
theorem dX9_brings_13 : decode cX9_brings 13 = .ok (.getfield 56, 3) := by decide +kernel
theorem dX9_brings_16 : decode cX9_brings 16 = .ok (.iload_n 2, 1) := by decide +kernel
theorem dX9_brings_17 : decode cX9_brings 17 = .ok (.iaload, 1) := by decide +kernel
theorem dX9_brings_18 : decode cX9_brings 18 = .ok (.imul, 1) := by decide +kernel
theorem dX9_brings_19 : decode cX9_brings 19 = .ok (.iadd, 1) := by decide +kernel
theorem dX9_brings_20 : decode cX9_brings 20 = .ok (.ireturn, 1) := by decide +kernel
theorem dX9_belief_0 : decode cX9_belief 0 = .ok (.iload_n 1, 1) := by decide +kernel
theorem dX9_belief_1 : decode cX9_belief 1 = .ok (.iconst 0, 1) := by decide +kernel
theorem dX9_belief_2 : decode cX9_belief 2 = .ok (.iconst 2, 1) := by decide +kernel
theorem dX9_belief_3 : decode cX9_belief 3 = .ok (.invokestatic 93, 3) := by decide +kernel
theorem dX9_belief_6 : decode cX9_belief 6 = .ok (.ifCond .ne 6, 3) := by decide +kernel
theorem dX9_belief_9 : decode cX9_belief 9 = .ok (.bipush (-2), 2) := by decide +kernel
theorem dX9_belief_11 : decode cX9_belief 11 = .ok (.ireturn, 1) := by decide +kernel
theorem dX9_belief_12 : decode cX9_belief 12 = .ok (.iconst 0, 1) := by decide +kernel
theorem dX9_belief_13 : decode cX9_belief 13 = .ok (.istore_n 2, 1) := by decide +kernel
theorem dX9_belief_14 : decode cX9_belief 14 = .ok (.iload_n 2, 1) := by decide +kernel
theorem dX9_belief_15 : decode cX9_belief 15 = .ok (.bipush 20, 2) := by decide +kernel
theorem dX9_belief_17 : decode cX9_belief 17 = .ok (.if_icmp .gt 96, 3) := by decide +kernel
theorem dX9_belief_20 : decode cX9_belief 20 = .ok (.iconst 0, 1) := by decide +kernel
theorem dX9_belief_21 : decode cX9_belief 21 = .ok (.istore_n 3, 1) := by decide +kernel
theorem dX9_belief_22 : decode cX9_belief 22 = .ok (.iconst 1, 1) := by decide +kernel
theorem dX9_belief_23 : decode cX9_belief 23 = .ok (.istore 4, 2) := by decide +kernel
theorem dX9_belief_25 : decode cX9_belief 25 = .ok (.iload 4, 2) := by decide +kernel
theorem dX9_belief_27 : decode cX9_belief 27 = .ok (.bipush 20, 2) := by decide +kernel
theorem dX9_belief_29 : decode cX9_belief 29 = .ok (.if_icmp .gt 32, 3) := by decide +kernel
theorem dX9_belief_32 : decode cX9_belief 32 = .ok (.aload_n 0, 1) := by decide +kernel
theorem dX9_belief_33 : decode cX9_belief 33 = .ok (.iload_n 2, 1) := by decide +kernel
theorem dX9_belief_34 : decode cX9_belief 34 = .ok (.iload 4, 2) := by decide +kernel
theorem dX9_belief_36 : decode cX9_belief 36 = .ok (.invokevirtual 258, 3) := by decide +kernel
theorem dX9_belief_39 : decode cX9_belief 39 = .ok (.aload_n 0, 1) := by decide +kernel
theorem dX9_belief_40 : decode cX9_belief 40 = .ok (.iload_n 2, 1) := by decide +kernel
theorem dX9_belief_41 : decode cX9_belief 41 = .ok (.iload_n 3, 1) := by decide +kernel
theorem dX9_belief_42 : decode cX9_belief 42 = .ok (.invokevirtual 258, 3) := by decide +kernel
theorem dX9_belief_45 : decode cX9_belief 45 = .ok (.if_icmp .le 8, 3) := by decide +kernel
theorem dX9_belief_48 : decode cX9_belief 48 = .ok (.iload 4, 2) := by decide +kernel
theorem dX9_belief_50 : decode cX9_belief 50 = .ok (.goto 4, 3) := by decide +kernel
theorem dX9_belief_53 : decode cX9_belief 53 = .ok (.iload_n 3, 1) := by decide +kernel
theorem dX9_belief_54 : decode cX9_belief 54 = .ok (.istore_n 3, 1) := by decide +kernel
theorem dX9_belief_55 : decode cX9_belief 55 = .ok (.iinc 4 1, 3) := by decide +kernel
theorem dX9_belief_58 : decode cX9_belief 58 = .ok (.goto (-33), 3) := by decide +kernel
theorem dX9_belief_61 : decode cX9_belief 61 = .ok (.aload_n 0, 1) := by decide +kernel
theorem dX9_belief_62 : decode cX9_belief 62 = .ok (.iload_n 2, 1) := by decide +kernel
theorem dX9_belief_63 : decode cX9_belief 63 = .ok (.iload_n 3, 1) := by decide +kernel
theorem dX9_belief_64 : decode cX9_belief 64 = .ok (.invokevirtual 258, 3) := by decide +kernel
theorem dX9_belief_67 : decode cX9_belief 67 = .ok (.aload_n 0, 1) := by decide +kernel
theorem dX9_belief_68 : decode cX9_belief 68 = .ok (.iload_n 2, 1) := by decide +kernel
theorem dX9_belief_69 : decode cX9_belief 69 = .ok (.iload_n 2, 1) := by decide +kernel
theorem dX9_belief_70 : decode cX9_belief 70 = .ok (.invokevirtual 258, 3) := by decide +kernel
theorem dX9_belief_73 : decode cX9_belief 73 = .ok (.if_icmp .le 34, 3) := by decide +kernel
theorem dX9_belief_76 : decode cX9_belief 76 = .ok (.iload_n 1, 1) := by decide +kernel
theorem dX9_belief_77 : decode cX9_belief 77 = .ok (.ifCond .ne 7, 3) := by decide +kernel
theorem dX9_belief_80 : decode cX9_belief 80 = .ok (.iload_n 2, 1) := by decide +kernel
theorem dX9_belief_81 : decode cX9_belief 81 = .ok (.goto 25, 3) := by decide +kernel
theorem dX9_belief_84 : decode cX9_belief 84 = .ok (.iload_n 1, 1) := by decide +kernel
theorem dX9_belief_85 : decode cX9_belief 85 = .ok (.iconst 1, 1) := by decide +kernel
theorem dX9_belief_86 : decode cX9_belief 86 = .ok (.if_icmp .ne 7, 3) := by decide +kernel
theorem dX9_belief_89 : decode cX9_belief 89 = .ok (.iload_n 3, 1) := by decide +kernel
theorem dX9_belief_90 : decode cX9_belief 90 = .ok (.goto 16, 3) := by decide +kernel
theorem dX9_belief_93 : decode cX9_belief 93 = .ok (.aload_n 0, 1) := by decide +kernel
theorem dX9_belief_94 : decode cX9_belief 94 = .ok (.iload_n 2, 1) := by decide +kernel
theorem dX9_belief_95 : decode cX9_belief 95 = .ok (.iload_n 3, 1) := by decide +kernel
theorem dX9_belief_96 : decode cX9_belief 96 = .ok (.invokevirtual 258, 3) := by decide +kernel
theorem dX9_belief_99 : decode cX9_belief 99 = .ok (.aload_n 0, 1) := by decide +kernel
theorem dX9_belief_100 : decode cX9_belief 100 = .ok (.iload_n 2, 1) := by decide +kernel
theorem dX9_belief_101 : decode cX9_belief 101 = .ok (.iload_n 2, 1) := by decide +kernel
theorem dX9_belief_102 : decode cX9_belief 102 = .ok (.invokevirtual 258, 3) := by decide +kernel
theorem dX9_belief_105 : decode cX9_belief 105 = .ok (.isub, 1) := by decide +kernel
theorem dX9_belief_106 : decode cX9_belief 106 = .ok (.ireturn, 1) := by decide +kernel
theorem dX9_belief_107 : decode cX9_belief 107 = .ok (.iinc 2 1, 3) := by decide +kernel
theorem dX9_belief_110 : decode cX9_belief 110 = .ok (.goto (-96), 3) := by decide +kernel
theorem dX9_belief_113 : decode cX9_belief 113 = .ok (.bipush (-6), 2) := by decide +kernel
theorem dX9_belief_115 : decode cX9_belief 115 = .ok (.ireturn, 1) := by decide +kernel
theorem dX9_plan_0 : decode cX9_plan 0 = .ok (.iload_n 1, 1) := by decide +kernel
theorem dX9_plan_1 : decode cX9_plan 1 = .ok (.iconst 0, 1) := by decide +kernel
theorem dX9_plan_2 : decode cX9_plan 2 = .ok (.bipush 100, 2) := by decide +kernel
theorem dX9_plan_4 : decode cX9_plan 4 = .ok (.invokestatic 93, 3) := by decide +kernel
theorem dX9_plan_7 : decode cX9_plan 7 = .ok (.ifCond .eq 13, 3) := by decide +kernel
theorem dX9_plan_10 : decode cX9_plan 10 = .ok (.iload_n 2, 1) := by decide +kernel
theorem dX9_plan_11 : decode cX9_plan 11 = .ok (.iconst 0, 1) := by decide +kernel
theorem dX9_plan_12 : decode cX9_plan 12 = .ok (.bipush 100, 2) := by decide +kernel
theorem dX9_plan_14 : decode cX9_plan 14 = .ok (.invokestatic 93, 3) := by decide +kernel
theorem dX9_plan_17 : decode cX9_plan 17 = .ok (.ifCond .ne 6, 3) := by decide +kernel
theorem dX9_plan_20 : decode cX9_plan 20 = .ok (.bipush (-2), 2) := by decide +kernel
theorem dX9_plan_22 : decode cX9_plan 22 = .ok (.ireturn, 1) := by decide +kernel
theorem dX9_plan_23 : decode cX9_plan 23 = .ok (.iload_n 2, 1) := by decide +kernel
theorem dX9_plan_24 : decode cX9_plan 24 = .ok (.i2l, 1) := by decide +kernel
theorem dX9_plan_25 : decode cX9_plan 25 = .ok (.lstore_n 3, 1) := by decide +kernel
theorem dX9_plan_26 : decode cX9_plan 26 = .ok (.iconst 1, 1) := by decide +kernel
theorem dX9_plan_27 : decode cX9_plan 27 = .ok (.istore 5, 2) := by decide +kernel
theorem dX9_plan_29 : decode cX9_plan 29 = .ok (.iload 5, 2) := by decide +kernel
theorem dX9_plan_31 : decode cX9_plan 31 = .ok (.bipush 9, 2) := by decide +kernel
theorem dX9_plan_33 : decode cX9_plan 33 = .ok (.if_icmp .gt 103, 3) := by decide +kernel
theorem dX9_plan_36 : decode cX9_plan 36 = .ok (.lconst 0, 1) := by decide +kernel
theorem dX9_plan_37 : decode cX9_plan 37 = .ok (.lstore 6, 2) := by decide +kernel
theorem dX9_plan_39 : decode cX9_plan 39 = .ok (.iload 5, 2) := by decide +kernel
theorem dX9_plan_41 : decode cX9_plan 41 = .ok (.iconst 2, 1) := by decide +kernel
theorem dX9_plan_42 : decode cX9_plan 42 = .ok (.idiv, 1) := by decide +kernel
theorem dX9_plan_43 : decode cX9_plan 43 = .ok (.iconst 1, 1) := by decide +kernel
theorem dX9_plan_44 : decode cX9_plan 44 = .ok (.iadd, 1) := by decide +kernel
theorem dX9_plan_45 : decode cX9_plan 45 = .ok (.istore 8, 2) := by decide +kernel
theorem dX9_plan_47 : decode cX9_plan 47 = .ok (.iload 8, 2) := by decide +kernel
theorem dX9_plan_49 : decode cX9_plan 49 = .ok (.iload 5, 2) := by decide +kernel
theorem dX9_plan_51 : decode cX9_plan 51 = .ok (.if_icmp .gt 63, 3) := by decide +kernel
theorem dX9_plan_54 : decode cX9_plan 54 = .ok (.iload 5, 2) := by decide +kernel
theorem dX9_plan_56 : decode cX9_plan 56 = .ok (.iload 8, 2) := by decide +kernel
theorem dX9_plan_58 : decode cX9_plan 58 = .ok (.invokestatic 249, 3) := by decide +kernel
theorem dX9_plan_61 : decode cX9_plan 61 = .ok (.lstore 9, 2) := by decide +kernel
theorem dX9_plan_63 : decode cX9_plan 63 = .ok (.iconst 0, 1) := by decide +kernel
theorem dX9_plan_64 : decode cX9_plan 64 = .ok (.istore 11, 2) := by decide +kernel
theorem dX9_plan_66 : decode cX9_plan 66 = .ok (.iload 11, 2) := by decide +kernel
theorem dX9_plan_68 : decode cX9_plan 68 = .ok (.iload 5, 2) := by decide +kernel
theorem dX9_plan_70 : decode cX9_plan 70 = .ok (.if_icmp .ge 31, 3) := by decide +kernel
theorem dX9_plan_73 : decode cX9_plan 73 = .ok (.lload 9, 2) := by decide +kernel
theorem dX9_plan_75 : decode cX9_plan 75 = .ok (.iload 11, 2) := by decide +kernel
theorem dX9_plan_77 : decode cX9_plan 77 = .ok (.iload 8, 2) := by decide +kernel
theorem dX9_plan_79 : decode cX9_plan 79 = .ok (.if_icmp .ge 8, 3) := by decide +kernel
theorem dX9_plan_82 : decode cX9_plan 82 = .ok (.iload_n 1, 1) := by decide +kernel
theorem dX9_plan_83 : decode cX9_plan 83 = .ok (.i2l, 1) := by decide +kernel
theorem dX9_plan_84 : decode cX9_plan 84 = .ok (.goto 8, 3) := by decide +kernel
theorem dX9_plan_87 : decode cX9_plan 87 = .ok (.bipush 100, 2) := by decide +kernel
theorem dX9_plan_89 : decode cX9_plan 89 = .ok (.iload_n 1, 1) := by decide +kernel
theorem dX9_plan_90 : decode cX9_plan 90 = .ok (.isub, 1) := by decide +kernel
