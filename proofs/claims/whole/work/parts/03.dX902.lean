theorem dX9_back_48 : decode cX9_back 48 = .ok (.goto 6, 3) := by decide +kernel
theorem dX9_back_51 : decode cX9_back 51 = .ok (.iload_n 3, 1) := by decide +kernel
theorem dX9_back_52 : decode cX9_back 52 = .ok (.iconst 1, 1) := by decide +kernel
theorem dX9_back_53 : decode cX9_back 53 = .ok (.isub, 1) := by decide +kernel
theorem dX9_back_54 : decode cX9_back 54 = .ok (.ireturn, 1) := by decide +kernel
theorem dX9_said_0 : decode cX9_said 0 = .ok (.aload_n 0, 1) := by decide +kernel
theorem dX9_said_1 : decode cX9_said 1 = .ok (.iload_n 1, 1) := by decide +kernel
theorem dX9_said_2 : decode cX9_said 2 = .ok (.invokevirtual 168, 3) := by decide +kernel
theorem dX9_said_5 : decode cX9_said 5 = .ok (.ifCond .eq 11, 3) := by decide +kernel
theorem dX9_said_8 : decode cX9_said 8 = .ok (.aload_n 0, 1) := by decide +kernel
theorem dX9_said_9 : decode cX9_said 9 = .ok (.iload_n 2, 1) := by decide +kernel
theorem dX9_said_10 : decode cX9_said 10 = .ok (.invokevirtual 134, 3) := by decide +kernel
theorem dX9_said_13 : decode cX9_said 13 = .ok (.ifCond .ne 5, 3) := by decide +kernel
theorem dX9_said_16 : decode cX9_said 16 = .ok (.iconst (-1), 1) := by decide +kernel
theorem dX9_said_17 : decode cX9_said 17 = .ok (.ireturn, 1) := by decide +kernel
theorem dX9_said_18 : decode cX9_said 18 = .ok (.aload_n 0, 1) := by decide +kernel
theorem dX9_said_19 : decode cX9_said 19 = .ok (.getfield 47, 3) := by decide +kernel
theorem dX9_said_22 : decode cX9_said 22 = .ok (.bipush 24, 2) := by decide +kernel
theorem dX9_said_24 : decode cX9_said 24 = .ok (.iload_n 1, 1) := by decide +kernel
theorem dX9_said_25 : decode cX9_said 25 = .ok (.imul, 1) := by decide +kernel
theorem dX9_said_26 : decode cX9_said 26 = .ok (.iload_n 2, 1) := by decide +kernel
theorem dX9_said_27 : decode cX9_said 27 = .ok (.iadd, 1) := by decide +kernel
theorem dX9_said_28 : decode cX9_said 28 = .ok (.iaload, 1) := by decide +kernel
theorem dX9_said_29 : decode cX9_said 29 = .ok (.ifCond .ne 8, 3) := by decide +kernel
theorem dX9_said_32 : decode cX9_said 32 = .ok (.bipush (-6), 2) := by decide +kernel
theorem dX9_said_34 : decode cX9_said 34 = .ok (.goto 16, 3) := by decide +kernel
theorem dX9_said_37 : decode cX9_said 37 = .ok (.aload_n 0, 1) := by decide +kernel
theorem dX9_said_38 : decode cX9_said 38 = .ok (.getfield 47, 3) := by decide +kernel
theorem dX9_said_41 : decode cX9_said 41 = .ok (.bipush 24, 2) := by decide +kernel
theorem dX9_said_43 : decode cX9_said 43 = .ok (.iload_n 1, 1) := by decide +kernel
theorem dX9_said_44 : decode cX9_said 44 = .ok (.imul, 1) := by decide +kernel
theorem dX9_said_45 : decode cX9_said 45 = .ok (.iload_n 2, 1) := by decide +kernel
theorem dX9_said_46 : decode cX9_said 46 = .ok (.iadd, 1) := by decide +kernel
theorem dX9_said_47 : decode cX9_said 47 = .ok (.iaload, 1) := by decide +kernel
theorem dX9_said_48 : decode cX9_said 48 = .ok (.iconst 1, 1) := by decide +kernel
theorem dX9_said_49 : decode cX9_said 49 = .ok (.isub, 1) := by decide +kernel
theorem dX9_said_50 : decode cX9_said 50 = .ok (.ireturn, 1) := by decide +kernel
theorem dX9_set_0 : decode cX9_set 0 = .ok (.iload_n 1, 1) := by decide +kernel
theorem dX9_set_1 : decode cX9_set 1 = .ok (.iconst 0, 1) := by decide +kernel
theorem dX9_set_2 : decode cX9_set 2 = .ok (.iconst 5, 1) := by decide +kernel
theorem dX9_set_3 : decode cX9_set 3 = .ok (.invokestatic 93, 3) := by decide +kernel
theorem dX9_set_6 : decode cX9_set 6 = .ok (.ifCond .ne 6, 3) := by decide +kernel
theorem dX9_set_9 : decode cX9_set 9 = .ok (.bipush (-2), 2) := by decide +kernel
theorem dX9_set_11 : decode cX9_set 11 = .ok (.ireturn, 1) := by decide +kernel
theorem dX9_set_12 : decode cX9_set 12 = .ok (.iload_n 1, 1) := by decide +kernel
theorem dX9_set_13 : decode cX9_set 13 = .ok (.ifCond .eq 8, 3) := by decide +kernel
theorem dX9_set_16 : decode cX9_set 16 = .ok (.iload_n 1, 1) := by decide +kernel
theorem dX9_set_17 : decode cX9_set 17 = .ok (.iconst 2, 1) := by decide +kernel
theorem dX9_set_18 : decode cX9_set 18 = .ok (.if_icmp .ne 7, 3) := by decide +kernel
theorem dX9_set_21 : decode cX9_set 21 = .ok (.iconst 1, 1) := by decide +kernel
theorem dX9_set_22 : decode cX9_set 22 = .ok (.goto 4, 3) := by decide +kernel
theorem dX9_set_25 : decode cX9_set 25 = .ok (.iconst 0, 1) := by decide +kernel
theorem dX9_set_26 : decode cX9_set 26 = .ok (.istore_n 3, 1) := by decide +kernel
theorem dX9_set_27 : decode cX9_set 27 = .ok (.iload_n 1, 1) := by decide +kernel
theorem dX9_set_28 : decode cX9_set 28 = .ok (.iconst 1, 1) := by decide +kernel
theorem dX9_set_29 : decode cX9_set 29 = .ok (.if_icmp .ne 8, 3) := by decide +kernel
theorem dX9_set_32 : decode cX9_set 32 = .ok (.ldc 171, 2) := by decide +kernel
theorem dX9_set_34 : decode cX9_set 34 = .ok (.goto 15, 3) := by decide +kernel
theorem dX9_set_37 : decode cX9_set 37 = .ok (.iload_n 1, 1) := by decide +kernel
theorem dX9_set_38 : decode cX9_set 38 = .ok (.iconst 2, 1) := by decide +kernel
theorem dX9_set_39 : decode cX9_set 39 = .ok (.if_icmp .ne 8, 3) := by decide +kernel
theorem dX9_set_42 : decode cX9_set 42 = .ok (.bipush 60, 2) := by decide +kernel
theorem dX9_set_44 : decode cX9_set 44 = .ok (.goto 5, 3) := by decide +kernel
theorem dX9_set_47 : decode cX9_set 47 = .ok (.bipush 100, 2) := by decide +kernel
theorem dX9_set_49 : decode cX9_set 49 = .ok (.istore 4, 2) := by decide +kernel
theorem dX9_set_51 : decode cX9_set 51 = .ok (.iload_n 2, 1) := by decide +kernel
theorem dX9_set_52 : decode cX9_set 52 = .ok (.iload_n 3, 1) := by decide +kernel
theorem dX9_set_53 : decode cX9_set 53 = .ok (.iload 4, 2) := by decide +kernel
theorem dX9_set_55 : decode cX9_set 55 = .ok (.invokestatic 93, 3) := by decide +kernel
theorem dX9_set_58 : decode cX9_set 58 = .ok (.ifCond .ne 6, 3) := by decide +kernel
theorem dX9_set_61 : decode cX9_set 61 = .ok (.bipush (-2), 2) := by decide +kernel
theorem dX9_set_63 : decode cX9_set 63 = .ok (.ireturn, 1) := by decide +kernel
theorem dX9_set_64 : decode cX9_set 64 = .ok (.aload_n 0, 1) := by decide +kernel
theorem dX9_set_65 : decode cX9_set 65 = .ok (.getfield 50, 3) := by decide +kernel
theorem dX9_set_68 : decode cX9_set 68 = .ok (.iload_n 1, 1) := by decide +kernel
theorem dX9_set_69 : decode cX9_set 69 = .ok (.iaload, 1) := by decide +kernel
theorem dX9_set_70 : decode cX9_set 70 = .ok (.istore 5, 2) := by decide +kernel
theorem dX9_set_72 : decode cX9_set 72 = .ok (.aload_n 0, 1) := by decide +kernel
theorem dX9_set_73 : decode cX9_set 73 = .ok (.getfield 50, 3) := by decide +kernel
theorem dX9_set_76 : decode cX9_set 76 = .ok (.iload_n 1, 1) := by decide +kernel
theorem dX9_set_77 : decode cX9_set 77 = .ok (.iload_n 2, 1) := by decide +kernel
theorem dX9_set_78 : decode cX9_set 78 = .ok (.iastore, 1) := by decide +kernel
theorem dX9_set_79 : decode cX9_set 79 = .ok (.iload 5, 2) := by decide +kernel
theorem dX9_set_81 : decode cX9_set 81 = .ok (.ireturn, 1) := by decide +kernel
theorem dX9_at_0 : decode cX9_at 0 = .ok (.bipush 48, 2) := by decide +kernel
theorem dX9_at_2 : decode cX9_at 2 = .ok (.iload_n 0, 1) := by decide +kernel
theorem dX9_at_3 : decode cX9_at 3 = .ok (.imul, 1) := by decide +kernel
theorem dX9_at_4 : decode cX9_at 4 = .ok (.bipush 16, 2) := by decide +kernel
theorem dX9_at_6 : decode cX9_at 6 = .ok (.iload_n 1, 1) := by decide +kernel
theorem dX9_at_7 : decode cX9_at 7 = .ok (.iconst 2, 1) := by decide +kernel
theorem dX9_at_8 : decode cX9_at 8 = .ok (.isub, 1) := by decide +kernel
theorem dX9_at_9 : decode cX9_at 9 = .ok (.imul, 1) := by decide +kernel
theorem dX9_at_10 : decode cX9_at 10 = .ok (.iadd, 1) := by decide +kernel
theorem dX9_at_11 : decode cX9_at 11 = .ok (.iconst 4, 1) := by decide +kernel
theorem dX9_at_12 : decode cX9_at 12 = .ok (.iload_n 2, 1) := by decide +kernel
theorem dX9_at_13 : decode cX9_at 13 = .ok (.imul, 1) := by decide +kernel
theorem dX9_at_14 : decode cX9_at 14 = .ok (.iadd, 1) := by decide +kernel
theorem dX9_at_15 : decode cX9_at 15 = .ok (.iload_n 3, 1) := by decide +kernel
theorem dX9_at_16 : decode cX9_at 16 = .ok (.iadd, 1) := by decide +kernel
theorem dX9_at_17 : decode cX9_at 17 = .ok (.ireturn, 1) := by decide +kernel
theorem dX9_beginShares_0 : decode cX9_beginShares 0 = .ok (.iconst 0, 1) := by decide +kernel
theorem dX9_beginShares_1 : decode cX9_beginShares 1 = .ok (.istore_n 1, 1) := by decide +kernel
theorem dX9_beginShares_2 : decode cX9_beginShares 2 = .ok (.iload_n 1, 1) := by decide +kernel
theorem dX9_beginShares_3 : decode cX9_beginShares 3 = .ok (.aload_n 0, 1) := by decide +kernel
theorem dX9_beginShares_4 : decode cX9_beginShares 4 = .ok (.getfield 115, 3) := by decide +kernel
theorem dX9_beginShares_7 : decode cX9_beginShares 7 = .ok (.if_icmp .ge 150, 3) := by decide +kernel
theorem dX9_beginShares_10 : decode cX9_beginShares 10 = .ok (.aload_n 0, 1) := by decide +kernel
theorem dX9_beginShares_11 : decode cX9_beginShares 11 = .ok (.iload_n 1, 1) := by decide +kernel
theorem dX9_beginShares_12 : decode cX9_beginShares 12 = .ok (.invokevirtual 165, 3) := by decide +kernel
theorem dX9_beginShares_15 : decode cX9_beginShares 15 = .ok (.istore_n 2, 1) := by decide +kernel
theorem dX9_beginShares_16 : decode cX9_beginShares 16 = .ok (.iconst 0, 1) := by decide +kernel
theorem dX9_beginShares_17 : decode cX9_beginShares 17 = .ok (.istore_n 3, 1) := by decide +kernel
theorem dX9_beginShares_18 : decode cX9_beginShares 18 = .ok (.iload_n 3, 1) := by decide +kernel
theorem dX9_beginShares_19 : decode cX9_beginShares 19 = .ok (.aload_n 0, 1) := by decide +kernel
theorem dX9_beginShares_20 : decode cX9_beginShares 20 = .ok (.iload_n 1, 1) := by decide +kernel
theorem dX9_beginShares_21 : decode cX9_beginShares 21 = .ok (.invokevirtual 138, 3) := by decide +kernel
theorem dX9_beginShares_24 : decode cX9_beginShares 24 = .ok (.if_icmp .ge 127, 3) := by decide +kernel
theorem dX9_beginShares_27 : decode cX9_beginShares 27 = .ok (.iconst 0, 1) := by decide +kernel
theorem dX9_beginShares_28 : decode cX9_beginShares 28 = .ok (.istore 4, 2) := by decide +kernel
theorem dX9_beginShares_30 : decode cX9_beginShares 30 = .ok (.iconst 0, 1) := by decide +kernel
theorem dX9_beginShares_31 : decode cX9_beginShares 31 = .ok (.istore 5, 2) := by decide +kernel
theorem dX9_beginShares_33 : decode cX9_beginShares 33 = .ok (.iload 5, 2) := by decide +kernel
theorem dX9_beginShares_35 : decode cX9_beginShares 35 = .ok (.aload_n 0, 1) := by decide +kernel
theorem dX9_beginShares_36 : decode cX9_beginShares 36 = .ok (.getfield 118, 3) := by decide +kernel
theorem dX9_beginShares_39 : decode cX9_beginShares 39 = .ok (.if_icmp .ge 47, 3) := by decide +kernel
theorem dX9_beginShares_42 : decode cX9_beginShares 42 = .ok (.iload 4, 2) := by decide +kernel
theorem dX9_beginShares_44 : decode cX9_beginShares 44 = .ok (.aload_n 0, 1) := by decide +kernel
theorem dX9_beginShares_45 : decode cX9_beginShares 45 = .ok (.iload 5, 2) := by decide +kernel
theorem dX9_beginShares_47 : decode cX9_beginShares 47 = .ok (.iload_n 1, 1) := by decide +kernel
theorem dX9_beginShares_48 : decode cX9_beginShares 48 = .ok (.invokevirtual 159, 3) := by decide +kernel
theorem dX9_beginShares_51 : decode cX9_beginShares 51 = .ok (.ifCond .eq 25, 3) := by decide +kernel
theorem dX9_beginShares_54 : decode cX9_beginShares 54 = .ok (.aload_n 0, 1) := by decide +kernel
theorem dX9_beginShares_55 : decode cX9_beginShares 55 = .ok (.getfield 47, 3) := by decide +kernel
theorem dX9_beginShares_58 : decode cX9_beginShares 58 = .ok (.bipush 24, 2) := by decide +kernel
theorem dX9_beginShares_60 : decode cX9_beginShares 60 = .ok (.iload 5, 2) := by decide +kernel
theorem dX9_beginShares_62 : decode cX9_beginShares 62 = .ok (.imul, 1) := by decide +kernel
theorem dX9_beginShares_63 : decode cX9_beginShares 63 = .ok (.iload_n 1, 1) := by decide +kernel
theorem dX9_beginShares_64 : decode cX9_beginShares 64 = .ok (.iadd, 1) := by decide +kernel
theorem dX9_beginShares_65 : decode cX9_beginShares 65 = .ok (.iaload, 1) := by decide +kernel
theorem dX9_beginShares_66 : decode cX9_beginShares 66 = .ok (.iload_n 3, 1) := by decide +kernel
theorem dX9_beginShares_67 : decode cX9_beginShares 67 = .ok (.iconst 1, 1) := by decide +kernel
theorem dX9_beginShares_68 : decode cX9_beginShares 68 = .ok (.iadd, 1) := by decide +kernel
theorem dX9_beginShares_69 : decode cX9_beginShares 69 = .ok (.if_icmp .ne 7, 3) := by decide +kernel
theorem dX9_beginShares_72 : decode cX9_beginShares 72 = .ok (.iconst 1, 1) := by decide +kernel
theorem dX9_beginShares_73 : decode cX9_beginShares 73 = .ok (.goto 4, 3) := by decide +kernel
theorem dX9_beginShares_76 : decode cX9_beginShares 76 = .ok (.iconst 0, 1) := by decide +kernel
theorem dX9_beginShares_77 : decode cX9_beginShares 77 = .ok (.iadd, 1) := by decide +kernel
theorem dX9_beginShares_78 : decode cX9_beginShares 78 = .ok (.istore 4, 2) := by decide +kernel
theorem dX9_beginShares_80 : decode cX9_beginShares 80 = .ok (.iinc 5 1, 3) := by decide +kernel
theorem dX9_beginShares_83 : decode cX9_beginShares 83 = .ok (.goto (-50), 3) := by decide +kernel
theorem dX9_beginShares_86 : decode cX9_beginShares 86 = .ok (.aload_n 0, 1) := by decide +kernel
theorem dX9_beginShares_87 : decode cX9_beginShares 87 = .ok (.iload_n 1, 1) := by decide +kernel
theorem dX9_beginShares_88 : decode cX9_beginShares 88 = .ok (.invokevirtual 146, 3) := by decide +kernel
theorem dX9_beginShares_91 : decode cX9_beginShares 91 = .ok (.istore 5, 2) := by decide +kernel
theorem dX9_beginShares_93 : decode cX9_beginShares 93 = .ok (.aload_n 0, 1) := by decide +kernel
theorem dX9_beginShares_94 : decode cX9_beginShares 94 = .ok (.getfield 59, 3) := by decide +kernel
theorem dX9_beginShares_97 : decode cX9_beginShares 97 = .ok (.iconst 4, 1) := by decide +kernel
theorem dX9_beginShares_98 : decode cX9_beginShares 98 = .ok (.iload_n 1, 1) := by decide +kernel
theorem dX9_beginShares_99 : decode cX9_beginShares 99 = .ok (.imul, 1) := by decide +kernel
theorem dX9_beginShares_100 : decode cX9_beginShares 100 = .ok (.iload_n 3, 1) := by decide +kernel
theorem dX9_beginShares_101 : decode cX9_beginShares 101 = .ok (.iadd, 1) := by decide +kernel
theorem dX9_beginShares_102 : decode cX9_beginShares 102 = .ok (.iload 5, 2) := by decide +kernel
theorem dX9_beginShares_104 : decode cX9_beginShares 104 = .ok (.ifCond .lt 18, 3) := by decide +kernel
theorem dX9_beginShares_107 : decode cX9_beginShares 107 = .ok (.iload 5, 2) := by decide +kernel
theorem dX9_beginShares_109 : decode cX9_beginShares 109 = .ok (.iload_n 3, 1) := by decide +kernel
theorem dX9_beginShares_110 : decode cX9_beginShares 110 = .ok (.if_icmp .ne 8, 3) := by decide +kernel
theorem dX9_beginShares_113 : decode cX9_beginShares 113 = .ok (.ldc 149, 2) := by decide +kernel
theorem dX9_beginShares_115 : decode cX9_beginShares 115 = .ok (.goto 29, 3) := by decide +kernel
theorem dX9_beginShares_118 : decode cX9_beginShares 118 = .ok (.iconst 0, 1) := by decide +kernel
theorem dX9_beginShares_119 : decode cX9_beginShares 119 = .ok (.goto 25, 3) := by decide +kernel
theorem dX9_beginShares_122 : decode cX9_beginShares 122 = .ok (.iload_n 2, 1) := by decide +kernel
theorem dX9_beginShares_123 : decode cX9_beginShares 123 = .ok (.ifCond .le 13, 3) := by decide +kernel
theorem dX9_beginShares_126 : decode cX9_beginShares 126 = .ok (.ldc 149, 2) := by decide +kernel
theorem dX9_beginShares_128 : decode cX9_beginShares 128 = .ok (.iload 4, 2) := by decide +kernel
theorem dX9_beginShares_130 : decode cX9_beginShares 130 = .ok (.imul, 1) := by decide +kernel
theorem dX9_beginShares_131 : decode cX9_beginShares 131 = .ok (.iload_n 2, 1) := by decide +kernel
theorem dX9_beginShares_132 : decode cX9_beginShares 132 = .ok (.idiv, 1) := by decide +kernel
theorem dX9_beginShares_133 : decode cX9_beginShares 133 = .ok (.goto 11, 3) := by decide +kernel
theorem dX9_beginShares_136 : decode cX9_beginShares 136 = .ok (.ldc 149, 2) := by decide +kernel
theorem dX9_beginShares_138 : decode cX9_beginShares 138 = .ok (.aload_n 0, 1) := by decide +kernel
theorem dX9_beginShares_139 : decode cX9_beginShares 139 = .ok (.iload_n 1, 1) := by decide +kernel
theorem dX9_beginShares_140 : decode cX9_beginShares 140 = .ok (.invokevirtual 138, 3) := by decide +kernel
theorem dX9_beginShares_143 : decode cX9_beginShares 143 = .ok (.idiv, 1) := by decide +kernel
theorem dX9_beginShares_144 : decode cX9_beginShares 144 = .ok (.iastore, 1) := by decide +kernel
theorem dX9_beginShares_145 : decode cX9_beginShares 145 = .ok (.iinc 3 1, 3) := by decide +kernel
theorem dX9_beginShares_148 : decode cX9_beginShares 148 = .ok (.goto (-130), 3) := by decide +kernel
theorem dX9_beginShares_151 : decode cX9_beginShares 151 = .ok (.iinc 1 1, 3) := by decide +kernel
theorem dX9_beginShares_154 : decode cX9_beginShares 154 = .ok (.goto (-152), 3) := by decide +kernel
theorem dX9_beginShares_157 : decode cX9_beginShares 157 = .ok (.return_, 1) := by decide +kernel
theorem dX9_saidBy_0 : decode cX9_saidBy 0 = .ok (.ldc2_w 172, 3) := by decide +kernel
theorem dX9_saidBy_3 : decode cX9_saidBy 3 = .ok (.aload_n 0, 1) := by decide +kernel
theorem dX9_saidBy_4 : decode cX9_saidBy 4 = .ok (.getfield 50, 3) := by decide +kernel
theorem dX9_saidBy_7 : decode cX9_saidBy 7 = .ok (.iconst 0, 1) := by decide +kernel
theorem dX9_saidBy_8 : decode cX9_saidBy 8 = .ok (.iaload, 1) := by decide +kernel
theorem dX9_saidBy_9 : decode cX9_saidBy 9 = .ok (.i2l, 1) := by decide +kernel
theorem dX9_saidBy_10 : decode cX9_saidBy 10 = .ok (.lmul, 1) := by decide +kernel
theorem dX9_saidBy_11 : decode cX9_saidBy 11 = .ok (.lstore 5, 2) := by decide +kernel
theorem dX9_saidBy_13 : decode cX9_saidBy 13 = .ok (.iconst 0, 1) := by decide +kernel
theorem dX9_saidBy_14 : decode cX9_saidBy 14 = .ok (.istore 7, 2) := by decide +kernel
theorem dX9_saidBy_16 : decode cX9_saidBy 16 = .ok (.iload 7, 2) := by decide +kernel
theorem dX9_saidBy_18 : decode cX9_saidBy 18 = .ok (.aload_n 0, 1) := by decide +kernel
theorem dX9_saidBy_19 : decode cX9_saidBy 19 = .ok (.getfield 115, 3) := by decide +kernel
theorem dX9_saidBy_22 : decode cX9_saidBy 22 = .ok (.if_icmp .ge 81, 3) := by decide +kernel
theorem dX9_saidBy_25 : decode cX9_saidBy 25 = .ok (.aload_n 0, 1) := by decide +kernel
theorem dX9_saidBy_26 : decode cX9_saidBy 26 = .ok (.iload 7, 2) := by decide +kernel
theorem dX9_saidBy_28 : decode cX9_saidBy 28 = .ok (.invokevirtual 138, 3) := by decide +kernel
theorem dX9_saidBy_31 : decode cX9_saidBy 31 = .ok (.iload_n 2, 1) := by decide +kernel
theorem dX9_saidBy_32 : decode cX9_saidBy 32 = .ok (.if_icmp .ne 36, 3) := by decide +kernel
theorem dX9_saidBy_35 : decode cX9_saidBy 35 = .ok (.aload_n 0, 1) := by decide +kernel
theorem dX9_saidBy_36 : decode cX9_saidBy 36 = .ok (.iload_n 1, 1) := by decide +kernel
theorem dX9_saidBy_37 : decode cX9_saidBy 37 = .ok (.iload 7, 2) := by decide +kernel
theorem dX9_saidBy_39 : decode cX9_saidBy 39 = .ok (.invokevirtual 159, 3) := by decide +kernel
theorem dX9_saidBy_42 : decode cX9_saidBy 42 = .ok (.ifCond .eq 26, 3) := by decide +kernel
theorem dX9_saidBy_45 : decode cX9_saidBy 45 = .ok (.aload_n 0, 1) := by decide +kernel
theorem dX9_saidBy_46 : decode cX9_saidBy 46 = .ok (.getfield 47, 3) := by decide +kernel
theorem dX9_saidBy_49 : decode cX9_saidBy 49 = .ok (.bipush 24, 2) := by decide +kernel
theorem dX9_saidBy_51 : decode cX9_saidBy 51 = .ok (.iload_n 1, 1) := by decide +kernel
theorem dX9_saidBy_52 : decode cX9_saidBy 52 = .ok (.imul, 1) := by decide +kernel
theorem dX9_saidBy_53 : decode cX9_saidBy 53 = .ok (.iload 7, 2) := by decide +kernel
theorem dX9_saidBy_55 : decode cX9_saidBy 55 = .ok (.iadd, 1) := by decide +kernel
theorem dX9_saidBy_56 : decode cX9_saidBy 56 = .ok (.iaload, 1) := by decide +kernel
theorem dX9_saidBy_57 : decode cX9_saidBy 57 = .ok (.iload 4, 2) := by decide +kernel
theorem dX9_saidBy_59 : decode cX9_saidBy 59 = .ok (.iconst 1, 1) := by decide +kernel
theorem dX9_saidBy_60 : decode cX9_saidBy 60 = .ok (.iadd, 1) := by decide +kernel
theorem dX9_saidBy_61 : decode cX9_saidBy 61 = .ok (.if_icmp .ne 7, 3) := by decide +kernel
theorem dX9_saidBy_64 : decode cX9_saidBy 64 = .ok (.iconst 1, 1) := by decide +kernel
theorem dX9_saidBy_65 : decode cX9_saidBy 65 = .ok (.goto 4, 3) := by decide +kernel
theorem dX9_saidBy_68 : decode cX9_saidBy 68 = .ok (.iconst 0, 1) := by decide +kernel
theorem dX9_saidBy_69 : decode cX9_saidBy 69 = .ok (.istore 8, 2) := by decide +kernel
theorem dX9_saidBy_71 : decode cX9_saidBy 71 = .ok (.lload 5, 2) := by decide +kernel
theorem dX9_saidBy_73 : decode cX9_saidBy 73 = .ok (.iload 8, 2) := by decide +kernel
theorem dX9_saidBy_75 : decode cX9_saidBy 75 = .ok (.ifCond .eq 18, 3) := by decide +kernel
theorem dX9_saidBy_78 : decode cX9_saidBy 78 = .ok (.aload_n 0, 1) := by decide +kernel
theorem dX9_saidBy_79 : decode cX9_saidBy 79 = .ok (.getfield 59, 3) := by decide +kernel
theorem dX9_saidBy_82 : decode cX9_saidBy 82 = .ok (.iconst 4, 1) := by decide +kernel
theorem dX9_saidBy_83 : decode cX9_saidBy 83 = .ok (.iload 7, 2) := by decide +kernel
theorem dX9_saidBy_85 : decode cX9_saidBy 85 = .ok (.imul, 1) := by decide +kernel
theorem dX9_saidBy_86 : decode cX9_saidBy 86 = .ok (.iload_n 3, 1) := by decide +kernel
theorem dX9_saidBy_87 : decode cX9_saidBy 87 = .ok (.iadd, 1) := by decide +kernel
theorem dX9_saidBy_88 : decode cX9_saidBy 88 = .ok (.iaload, 1) := by decide +kernel
theorem dX9_saidBy_89 : decode cX9_saidBy 89 = .ok (.i2l, 1) := by decide +kernel
theorem dX9_saidBy_90 : decode cX9_saidBy 90 = .ok (.goto 4, 3) := by decide +kernel
theorem dX9_saidBy_93 : decode cX9_saidBy 93 = .ok (.lconst 0, 1) := by decide +kernel
theorem dX9_saidBy_94 : decode cX9_saidBy 94 = .ok (.ladd, 1) := by decide +kernel
theorem dX9_saidBy_95 : decode cX9_saidBy 95 = .ok (.lstore 5, 2) := by decide +kernel
theorem dX9_saidBy_97 : decode cX9_saidBy 97 = .ok (.iinc 7 1, 3) := by decide +kernel
theorem dX9_saidBy_100 : decode cX9_saidBy 100 = .ok (.goto (-84), 3) := by decide +kernel
theorem dX9_saidBy_103 : decode cX9_saidBy 103 = .ok (.lload 5, 2) := by decide +kernel
theorem dX9_saidBy_105 : decode cX9_saidBy 105 = .ok (.lreturn, 1) := by decide +kernel
theorem dX9_layTables_0 : decode cX9_layTables 0 = .ok (.iconst 0, 1) := by decide +kernel
theorem dX9_layTables_1 : decode cX9_layTables 1 = .ok (.istore_n 1, 1) := by decide +kernel
theorem dX9_layTables_2 : decode cX9_layTables 2 = .ok (.iload_n 1, 1) := by decide +kernel
theorem dX9_layTables_3 : decode cX9_layTables 3 = .ok (.aload_n 0, 1) := by decide +kernel
theorem dX9_layTables_4 : decode cX9_layTables 4 = .ok (.getfield 118, 3) := by decide +kernel
theorem dX9_layTables_7 : decode cX9_layTables 7 = .ok (.if_icmp .ge 112, 3) := by decide +kernel
theorem dX9_layTables_10 : decode cX9_layTables 10 = .ok (.iconst 2, 1) := by decide +kernel
theorem dX9_layTables_11 : decode cX9_layTables 11 = .ok (.istore_n 2, 1) := by decide +kernel
theorem dX9_layTables_12 : decode cX9_layTables 12 = .ok (.iload_n 2, 1) := by decide +kernel
theorem dX9_layTables_13 : decode cX9_layTables 13 = .ok (.iconst 4, 1) := by decide +kernel
theorem dX9_layTables_14 : decode cX9_layTables 14 = .ok (.if_icmp .gt 99, 3) := by decide +kernel
theorem dX9_layTables_17 : decode cX9_layTables 17 = .ok (.iconst 0, 1) := by decide +kernel
theorem dX9_layTables_18 : decode cX9_layTables 18 = .ok (.istore_n 3, 1) := by decide +kernel
theorem dX9_layTables_19 : decode cX9_layTables 19 = .ok (.iload_n 3, 1) := by decide +kernel
theorem dX9_layTables_20 : decode cX9_layTables 20 = .ok (.iload_n 2, 1) := by decide +kernel
theorem dX9_layTables_21 : decode cX9_layTables 21 = .ok (.if_icmp .ge 86, 3) := by decide +kernel
theorem dX9_layTables_24 : decode cX9_layTables 24 = .ok (.lconst 0, 1) := by decide +kernel
theorem dX9_layTables_25 : decode cX9_layTables 25 = .ok (.lstore 4, 2) := by decide +kernel
theorem dX9_layTables_27 : decode cX9_layTables 27 = .ok (.iconst 0, 1) := by decide +kernel
theorem dX9_layTables_28 : decode cX9_layTables 28 = .ok (.istore 6, 2) := by decide +kernel
theorem dX9_layTables_30 : decode cX9_layTables 30 = .ok (.iload 6, 2) := by decide +kernel
theorem dX9_layTables_32 : decode cX9_layTables 32 = .ok (.iload_n 2, 1) := by decide +kernel
theorem dX9_layTables_33 : decode cX9_layTables 33 = .ok (.if_icmp .ge 23, 3) := by decide +kernel
theorem dX9_layTables_36 : decode cX9_layTables 36 = .ok (.lload 4, 2) := by decide +kernel
theorem dX9_layTables_38 : decode cX9_layTables 38 = .ok (.aload_n 0, 1) := by decide +kernel
theorem dX9_layTables_39 : decode cX9_layTables 39 = .ok (.iload_n 1, 1) := by decide +kernel
theorem dX9_layTables_40 : decode cX9_layTables 40 = .ok (.iload_n 2, 1) := by decide +kernel
theorem dX9_layTables_41 : decode cX9_layTables 41 = .ok (.iload_n 3, 1) := by decide +kernel
theorem dX9_layTables_42 : decode cX9_layTables 42 = .ok (.iload 6, 2) := by decide +kernel
theorem dX9_layTables_44 : decode cX9_layTables 44 = .ok (.invokevirtual 174, 3) := by decide +kernel
theorem dX9_layTables_47 : decode cX9_layTables 47 = .ok (.ladd, 1) := by decide +kernel
theorem dX9_layTables_48 : decode cX9_layTables 48 = .ok (.lstore 4, 2) := by decide +kernel
theorem dX9_layTables_50 : decode cX9_layTables 50 = .ok (.iinc 6 1, 3) := by decide +kernel
theorem dX9_layTables_53 : decode cX9_layTables 53 = .ok (.goto (-23), 3) := by decide +kernel
theorem dX9_layTables_56 : decode cX9_layTables 56 = .ok (.iconst 0, 1) := by decide +kernel
theorem dX9_layTables_57 : decode cX9_layTables 57 = .ok (.istore 6, 2) := by decide +kernel
theorem dX9_layTables_59 : decode cX9_layTables 59 = .ok (.iload 6, 2) := by decide +kernel
theorem dX9_layTables_61 : decode cX9_layTables 61 = .ok (.iload_n 2, 1) := by decide +kernel
theorem dX9_layTables_62 : decode cX9_layTables 62 = .ok (.if_icmp .ge 39, 3) := by decide +kernel
theorem dX9_layTables_65 : decode cX9_layTables 65 = .ok (.aload_n 0, 1) := by decide +kernel
theorem dX9_layTables_66 : decode cX9_layTables 66 = .ok (.getfield 62, 3) := by decide +kernel
theorem dX9_layTables_69 : decode cX9_layTables 69 = .ok (.iload_n 1, 1) := by decide +kernel
theorem dX9_layTables_70 : decode cX9_layTables 70 = .ok (.iload_n 2, 1) := by decide +kernel
theorem dX9_layTables_71 : decode cX9_layTables 71 = .ok (.iload_n 3, 1) := by decide +kernel
theorem dX9_layTables_72 : decode cX9_layTables 72 = .ok (.iload 6, 2) := by decide +kernel
theorem dX9_layTables_74 : decode cX9_layTables 74 = .ok (.invokestatic 178, 3) := by decide +kernel
theorem dX9_layTables_77 : decode cX9_layTables 77 = .ok (.ldc2_w 182, 3) := by decide +kernel
theorem dX9_layTables_80 : decode cX9_layTables 80 = .ok (.aload_n 0, 1) := by decide +kernel
theorem dX9_layTables_81 : decode cX9_layTables 81 = .ok (.iload_n 1, 1) := by decide +kernel
theorem dX9_layTables_82 : decode cX9_layTables 82 = .ok (.iload_n 2, 1) := by decide +kernel
theorem dX9_layTables_83 : decode cX9_layTables 83 = .ok (.iload_n 3, 1) := by decide +kernel
theorem dX9_layTables_84 : decode cX9_layTables 84 = .ok (.iload 6, 2) := by decide +kernel
theorem dX9_layTables_86 : decode cX9_layTables 86 = .ok (.invokevirtual 174, 3) := by decide +kernel
theorem dX9_layTables_89 : decode cX9_layTables 89 = .ok (.lmul, 1) := by decide +kernel
theorem dX9_layTables_90 : decode cX9_layTables 90 = .ok (.lload 4, 2) := by decide +kernel
theorem dX9_layTables_92 : decode cX9_layTables 92 = .ok (.ldiv, 1) := by decide +kernel
theorem dX9_layTables_93 : decode cX9_layTables 93 = .ok (.l2i, 1) := by decide +kernel
theorem dX9_layTables_94 : decode cX9_layTables 94 = .ok (.iastore, 1) := by decide +kernel
theorem dX9_layTables_95 : decode cX9_layTables 95 = .ok (.iinc 6 1, 3) := by decide +kernel
theorem dX9_layTables_98 : decode cX9_layTables 98 = .ok (.goto (-39), 3) := by decide +kernel
theorem dX9_layTables_101 : decode cX9_layTables 101 = .ok (.iinc 3 1, 3) := by decide +kernel
theorem dX9_layTables_104 : decode cX9_layTables 104 = .ok (.goto (-85), 3) := by decide +kernel
theorem dX9_layTables_107 : decode cX9_layTables 107 = .ok (.iinc 2 1, 3) := by decide +kernel
theorem dX9_layTables_110 : decode cX9_layTables 110 = .ok (.goto (-98), 3) := by decide +kernel
theorem dX9_layTables_113 : decode cX9_layTables 113 = .ok (.iinc 1 1, 3) := by decide +kernel
theorem dX9_layTables_116 : decode cX9_layTables 116 = .ok (.goto (-114), 3) := by decide +kernel
theorem dX9_layTables_119 : decode cX9_layTables 119 = .ok (.return_, 1) := by decide +kernel
theorem dX9_turnShares_0 : decode cX9_turnShares 0 = .ok (.iconst 0, 1) := by decide +kernel
theorem dX9_turnShares_1 : decode cX9_turnShares 1 = .ok (.istore_n 1, 1) := by decide +kernel
theorem dX9_turnShares_2 : decode cX9_turnShares 2 = .ok (.iconst 0, 1) := by decide +kernel
theorem dX9_turnShares_3 : decode cX9_turnShares 3 = .ok (.istore_n 2, 1) := by decide +kernel
theorem dX9_turnShares_4 : decode cX9_turnShares 4 = .ok (.iload_n 2, 1) := by decide +kernel
theorem dX9_turnShares_5 : decode cX9_turnShares 5 = .ok (.aload_n 0, 1) := by decide +kernel
theorem dX9_turnShares_6 : decode cX9_turnShares 6 = .ok (.getfield 115, 3) := by decide +kernel
theorem dX9_turnShares_9 : decode cX9_turnShares 9 = .ok (.if_icmp .ge 321, 3) := by decide +kernel
theorem dX9_turnShares_12 : decode cX9_turnShares 12 = .ok (.aload_n 0, 1) := by decide +kernel
theorem dX9_turnShares_13 : decode cX9_turnShares 13 = .ok (.iload_n 2, 1) := by decide +kernel
theorem dX9_turnShares_14 : decode cX9_turnShares 14 = .ok (.invokevirtual 138, 3) := by decide +kernel
theorem dX9_turnShares_17 : decode cX9_turnShares 17 = .ok (.istore_n 3, 1) := by decide +kernel
theorem dX9_turnShares_18 : decode cX9_turnShares 18 = .ok (.aload_n 0, 1) := by decide +kernel
theorem dX9_turnShares_19 : decode cX9_turnShares 19 = .ok (.iload_n 2, 1) := by decide +kernel
theorem dX9_turnShares_20 : decode cX9_turnShares 20 = .ok (.invokevirtual 146, 3) := by decide +kernel
theorem dX9_turnShares_23 : decode cX9_turnShares 23 = .ok (.ifCond .ge 301, 3) := by decide +kernel
theorem dX9_turnShares_26 : decode cX9_turnShares 26 = .ok (.aload_n 0, 1) := by decide +kernel
theorem dX9_turnShares_27 : decode cX9_turnShares 27 = .ok (.iload_n 2, 1) := by decide +kernel
theorem dX9_turnShares_28 : decode cX9_turnShares 28 = .ok (.invokevirtual 165, 3) := by decide +kernel
theorem dX9_turnShares_31 : decode cX9_turnShares 31 = .ok (.ifCond .le 293, 3) := by decide +kernel
theorem dX9_turnShares_34 : decode cX9_turnShares 34 = .ok (.iconst 0, 1) := by decide +kernel
theorem dX9_turnShares_35 : decode cX9_turnShares 35 = .ok (.istore 4, 2) := by decide +kernel
theorem dX9_turnShares_37 : decode cX9_turnShares 37 = .ok (.iload 4, 2) := by decide +kernel
theorem dX9_turnShares_39 : decode cX9_turnShares 39 = .ok (.iload_n 3, 1) := by decide +kernel
theorem dX9_turnShares_40 : decode cX9_turnShares 40 = .ok (.if_icmp .ge 20, 3) := by decide +kernel
theorem dX9_turnShares_43 : decode cX9_turnShares 43 = .ok (.aload_n 0, 1) := by decide +kernel
theorem dX9_turnShares_44 : decode cX9_turnShares 44 = .ok (.getfield 83, 3) := by decide +kernel
theorem dX9_turnShares_47 : decode cX9_turnShares 47 = .ok (.iload 4, 2) := by decide +kernel
theorem dX9_turnShares_49 : decode cX9_turnShares 49 = .ok (.ldc 149, 2) := by decide +kernel
theorem dX9_turnShares_51 : decode cX9_turnShares 51 = .ok (.iload_n 3, 1) := by decide +kernel
theorem dX9_turnShares_52 : decode cX9_turnShares 52 = .ok (.idiv, 1) := by decide +kernel
theorem dX9_turnShares_53 : decode cX9_turnShares 53 = .ok (.iastore, 1) := by decide +kernel
theorem dX9_turnShares_54 : decode cX9_turnShares 54 = .ok (.iinc 4 1, 3) := by decide +kernel
theorem dX9_turnShares_57 : decode cX9_turnShares 57 = .ok (.goto (-20), 3) := by decide +kernel
theorem dX9_turnShares_60 : decode cX9_turnShares 60 = .ok (.iconst 0, 1) := by decide +kernel
theorem dX9_turnShares_61 : decode cX9_turnShares 61 = .ok (.istore 4, 2) := by decide +kernel
theorem dX9_turnShares_63 : decode cX9_turnShares 63 = .ok (.iload 4, 2) := by decide +kernel
theorem dX9_turnShares_65 : decode cX9_turnShares 65 = .ok (.aload_n 0, 1) := by decide +kernel
theorem dX9_turnShares_66 : decode cX9_turnShares 66 = .ok (.getfield 118, 3) := by decide +kernel
theorem dX9_turnShares_69 : decode cX9_turnShares 69 = .ok (.if_icmp .ge 145, 3) := by decide +kernel
theorem dX9_turnShares_72 : decode cX9_turnShares 72 = .ok (.aload_n 0, 1) := by decide +kernel
theorem dX9_turnShares_73 : decode cX9_turnShares 73 = .ok (.iload 4, 2) := by decide +kernel
theorem dX9_turnShares_75 : decode cX9_turnShares 75 = .ok (.iload_n 2, 1) := by decide +kernel
theorem dX9_turnShares_76 : decode cX9_turnShares 76 = .ok (.invokevirtual 159, 3) := by decide +kernel
theorem dX9_turnShares_79 : decode cX9_turnShares 79 = .ok (.ifCond .eq 129, 3) := by decide +kernel
theorem dX9_turnShares_82 : decode cX9_turnShares 82 = .ok (.aload_n 0, 1) := by decide +kernel
theorem dX9_turnShares_83 : decode cX9_turnShares 83 = .ok (.getfield 47, 3) := by decide +kernel
theorem dX9_turnShares_86 : decode cX9_turnShares 86 = .ok (.bipush 24, 2) := by decide +kernel
theorem dX9_turnShares_88 : decode cX9_turnShares 88 = .ok (.iload 4, 2) := by decide +kernel
theorem dX9_turnShares_90 : decode cX9_turnShares 90 = .ok (.imul, 1) := by decide +kernel
theorem dX9_turnShares_91 : decode cX9_turnShares 91 = .ok (.iload_n 2, 1) := by decide +kernel
theorem dX9_turnShares_92 : decode cX9_turnShares 92 = .ok (.iadd, 1) := by decide +kernel
theorem dX9_turnShares_93 : decode cX9_turnShares 93 = .ok (.iaload, 1) := by decide +kernel
theorem dX9_turnShares_94 : decode cX9_turnShares 94 = .ok (.iconst 1, 1) := by decide +kernel
theorem dX9_turnShares_95 : decode cX9_turnShares 95 = .ok (.isub, 1) := by decide +kernel
theorem dX9_turnShares_96 : decode cX9_turnShares 96 = .ok (.istore 5, 2) := by decide +kernel
theorem dX9_turnShares_98 : decode cX9_turnShares 98 = .ok (.lconst 0, 1) := by decide +kernel
theorem dX9_turnShares_99 : decode cX9_turnShares 99 = .ok (.lstore 6, 2) := by decide +kernel
theorem dX9_turnShares_101 : decode cX9_turnShares 101 = .ok (.iconst 0, 1) := by decide +kernel
theorem dX9_turnShares_102 : decode cX9_turnShares 102 = .ok (.istore 8, 2) := by decide +kernel
theorem dX9_turnShares_104 : decode cX9_turnShares 104 = .ok (.iload 8, 2) := by decide +kernel
theorem dX9_turnShares_106 : decode cX9_turnShares 106 = .ok (.iload_n 3, 1) := by decide +kernel
theorem dX9_turnShares_107 : decode cX9_turnShares 107 = .ok (.if_icmp .ge 39, 3) := by decide +kernel
theorem dX9_turnShares_110 : decode cX9_turnShares 110 = .ok (.lload 6, 2) := by decide +kernel
theorem dX9_turnShares_112 : decode cX9_turnShares 112 = .ok (.aload_n 0, 1) := by decide +kernel
theorem dX9_turnShares_113 : decode cX9_turnShares 113 = .ok (.getfield 83, 3) := by decide +kernel
theorem dX9_turnShares_116 : decode cX9_turnShares 116 = .ok (.iload 8, 2) := by decide +kernel
theorem dX9_turnShares_118 : decode cX9_turnShares 118 = .ok (.iaload, 1) := by decide +kernel
theorem dX9_turnShares_119 : decode cX9_turnShares 119 = .ok (.i2l, 1) := by decide +kernel
theorem dX9_turnShares_120 : decode cX9_turnShares 120 = .ok (.aload_n 0, 1) := by decide +kernel
theorem dX9_turnShares_121 : decode cX9_turnShares 121 = .ok (.getfield 62, 3) := by decide +kernel
theorem dX9_turnShares_124 : decode cX9_turnShares 124 = .ok (.iload 4, 2) := by decide +kernel
theorem dX9_turnShares_126 : decode cX9_turnShares 126 = .ok (.iload_n 3, 1) := by decide +kernel
theorem dX9_turnShares_127 : decode cX9_turnShares 127 = .ok (.iload 8, 2) := by decide +kernel
theorem dX9_turnShares_129 : decode cX9_turnShares 129 = .ok (.iload 5, 2) := by decide +kernel
theorem dX9_turnShares_131 : decode cX9_turnShares 131 = .ok (.invokestatic 178, 3) := by decide +kernel
theorem dX9_turnShares_134 : decode cX9_turnShares 134 = .ok (.iaload, 1) := by decide +kernel
theorem dX9_turnShares_135 : decode cX9_turnShares 135 = .ok (.i2l, 1) := by decide +kernel
theorem dX9_turnShares_136 : decode cX9_turnShares 136 = .ok (.lmul, 1) := by decide +kernel
theorem dX9_turnShares_137 : decode cX9_turnShares 137 = .ok (.ladd, 1) := by decide +kernel
theorem dX9_turnShares_138 : decode cX9_turnShares 138 = .ok (.lstore 6, 2) := by decide +kernel
theorem dX9_turnShares_140 : decode cX9_turnShares 140 = .ok (.iinc 8 1, 3) := by decide +kernel
theorem dX9_turnShares_143 : decode cX9_turnShares 143 = .ok (.goto (-39), 3) := by decide +kernel
theorem dX9_turnShares_146 : decode cX9_turnShares 146 = .ok (.iconst 0, 1) := by decide +kernel
theorem dX9_turnShares_147 : decode cX9_turnShares 147 = .ok (.istore 8, 2) := by decide +kernel
theorem dX9_turnShares_149 : decode cX9_turnShares 149 = .ok (.iload 8, 2) := by decide +kernel
theorem dX9_turnShares_151 : decode cX9_turnShares 151 = .ok (.iload_n 3, 1) := by decide +kernel
theorem dX9_turnShares_152 : decode cX9_turnShares 152 = .ok (.if_icmp .ge 56, 3) := by decide +kernel
theorem dX9_turnShares_155 : decode cX9_turnShares 155 = .ok (.lload 6, 2) := by decide +kernel
theorem dX9_turnShares_157 : decode cX9_turnShares 157 = .ok (.lconst 0, 1) := by decide +kernel
theorem dX9_turnShares_158 : decode cX9_turnShares 158 = .ok (.lcmp, 1) := by decide +kernel
theorem dX9_turnShares_159 : decode cX9_turnShares 159 = .ok (.ifCond .le 49, 3) := by decide +kernel
theorem dX9_turnShares_162 : decode cX9_turnShares 162 = .ok (.aload_n 0, 1) := by decide +kernel
theorem dX9_turnShares_163 : decode cX9_turnShares 163 = .ok (.getfield 83, 3) := by decide +kernel
theorem dX9_turnShares_166 : decode cX9_turnShares 166 = .ok (.iload 8, 2) := by decide +kernel
theorem dX9_turnShares_168 : decode cX9_turnShares 168 = .ok (.aload_n 0, 1) := by decide +kernel
theorem dX9_turnShares_169 : decode cX9_turnShares 169 = .ok (.getfield 83, 3) := by decide +kernel
theorem dX9_turnShares_172 : decode cX9_turnShares 172 = .ok (.iload 8, 2) := by decide +kernel
theorem dX9_turnShares_174 : decode cX9_turnShares 174 = .ok (.iaload, 1) := by decide +kernel
theorem dX9_turnShares_175 : decode cX9_turnShares 175 = .ok (.i2l, 1) := by decide +kernel
theorem dX9_turnShares_176 : decode cX9_turnShares 176 = .ok (.aload_n 0, 1) := by decide +kernel
theorem dX9_turnShares_177 : decode cX9_turnShares 177 = .ok (.getfield 62, 3) := by decide +kernel
theorem dX9_turnShares_180 : decode cX9_turnShares 180 = .ok (.iload 4, 2) := by decide +kernel
theorem dX9_turnShares_182 : decode cX9_turnShares 182 = .ok (.iload_n 3, 1) := by decide +kernel
theorem dX9_turnShares_183 : decode cX9_turnShares 183 = .ok (.iload 8, 2) := by decide +kernel
theorem dX9_turnShares_185 : decode cX9_turnShares 185 = .ok (.iload 5, 2) := by decide +kernel
theorem dX9_turnShares_187 : decode cX9_turnShares 187 = .ok (.invokestatic 178, 3) := by decide +kernel
theorem dX9_turnShares_190 : decode cX9_turnShares 190 = .ok (.iaload, 1) := by decide +kernel
theorem dX9_turnShares_191 : decode cX9_turnShares 191 = .ok (.i2l, 1) := by decide +kernel
theorem dX9_turnShares_192 : decode cX9_turnShares 192 = .ok (.lmul, 1) := by decide +kernel
theorem dX9_turnShares_193 : decode cX9_turnShares 193 = .ok (.ldc2_w 184, 3) := by decide +kernel
theorem dX9_turnShares_196 : decode cX9_turnShares 196 = .ok (.lmul, 1) := by decide +kernel
theorem dX9_turnShares_197 : decode cX9_turnShares 197 = .ok (.lload 6, 2) := by decide +kernel
theorem dX9_turnShares_199 : decode cX9_turnShares 199 = .ok (.ldiv, 1) := by decide +kernel
theorem dX9_turnShares_200 : decode cX9_turnShares 200 = .ok (.l2i, 1) := by decide +kernel
theorem dX9_turnShares_201 : decode cX9_turnShares 201 = .ok (.iastore, 1) := by decide +kernel
theorem dX9_turnShares_202 : decode cX9_turnShares 202 = .ok (.iinc 8 1, 3) := by decide +kernel
theorem dX9_turnShares_205 : decode cX9_turnShares 205 = .ok (.goto (-56), 3) := by decide +kernel
theorem dX9_turnShares_208 : decode cX9_turnShares 208 = .ok (.iinc 4 1, 3) := by decide +kernel
theorem dX9_turnShares_211 : decode cX9_turnShares 211 = .ok (.goto (-148), 3) := by decide +kernel
theorem dX9_turnShares_214 : decode cX9_turnShares 214 = .ok (.iconst 0, 1) := by decide +kernel
theorem dX9_turnShares_215 : decode cX9_turnShares 215 = .ok (.istore 4, 2) := by decide +kernel
theorem dX9_turnShares_217 : decode cX9_turnShares 217 = .ok (.iload 4, 2) := by decide +kernel
theorem dX9_turnShares_219 : decode cX9_turnShares 219 = .ok (.iload_n 3, 1) := by decide +kernel
theorem dX9_turnShares_220 : decode cX9_turnShares 220 = .ok (.if_icmp .ge 104, 3) := by decide +kernel
theorem dX9_turnShares_223 : decode cX9_turnShares 223 = .ok (.aload_n 0, 1) := by decide +kernel
theorem dX9_turnShares_224 : decode cX9_turnShares 224 = .ok (.getfield 83, 3) := by decide +kernel
theorem dX9_turnShares_227 : decode cX9_turnShares 227 = .ok (.iload 4, 2) := by decide +kernel
theorem dX9_turnShares_229 : decode cX9_turnShares 229 = .ok (.iaload, 1) := by decide +kernel
theorem dX9_turnShares_230 : decode cX9_turnShares 230 = .ok (.aload_n 0, 1) := by decide +kernel
theorem dX9_turnShares_231 : decode cX9_turnShares 231 = .ok (.getfield 59, 3) := by decide +kernel
theorem dX9_turnShares_234 : decode cX9_turnShares 234 = .ok (.iconst 4, 1) := by decide +kernel
theorem dX9_turnShares_235 : decode cX9_turnShares 235 = .ok (.iload_n 2, 1) := by decide +kernel
theorem dX9_turnShares_236 : decode cX9_turnShares 236 = .ok (.imul, 1) := by decide +kernel
theorem dX9_turnShares_237 : decode cX9_turnShares 237 = .ok (.iload 4, 2) := by decide +kernel
theorem dX9_turnShares_239 : decode cX9_turnShares 239 = .ok (.iadd, 1) := by decide +kernel
theorem dX9_turnShares_240 : decode cX9_turnShares 240 = .ok (.iaload, 1) := by decide +kernel
theorem dX9_turnShares_241 : decode cX9_turnShares 241 = .ok (.if_icmp .ge 25, 3) := by decide +kernel
theorem dX9_turnShares_244 : decode cX9_turnShares 244 = .ok (.aload_n 0, 1) := by decide +kernel
theorem dX9_turnShares_245 : decode cX9_turnShares 245 = .ok (.getfield 59, 3) := by decide +kernel
theorem dX9_turnShares_248 : decode cX9_turnShares 248 = .ok (.iconst 4, 1) := by decide +kernel
theorem dX9_turnShares_249 : decode cX9_turnShares 249 = .ok (.iload_n 2, 1) := by decide +kernel
theorem dX9_turnShares_250 : decode cX9_turnShares 250 = .ok (.imul, 1) := by decide +kernel
theorem dX9_turnShares_251 : decode cX9_turnShares 251 = .ok (.iload 4, 2) := by decide +kernel
theorem dX9_turnShares_253 : decode cX9_turnShares 253 = .ok (.iadd, 1) := by decide +kernel
theorem dX9_turnShares_254 : decode cX9_turnShares 254 = .ok (.iaload, 1) := by decide +kernel
theorem dX9_turnShares_255 : decode cX9_turnShares 255 = .ok (.aload_n 0, 1) := by decide +kernel
theorem dX9_turnShares_256 : decode cX9_turnShares 256 = .ok (.getfield 83, 3) := by decide +kernel
theorem dX9_turnShares_259 : decode cX9_turnShares 259 = .ok (.iload 4, 2) := by decide +kernel
theorem dX9_turnShares_261 : decode cX9_turnShares 261 = .ok (.iaload, 1) := by decide +kernel
theorem dX9_turnShares_262 : decode cX9_turnShares 262 = .ok (.isub, 1) := by decide +kernel
theorem dX9_turnShares_263 : decode cX9_turnShares 263 = .ok (.goto 22, 3) := by decide +kernel
theorem dX9_turnShares_266 : decode cX9_turnShares 266 = .ok (.aload_n 0, 1) := by decide +kernel
theorem dX9_turnShares_267 : decode cX9_turnShares 267 = .ok (.getfield 83, 3) := by decide +kernel
theorem dX9_turnShares_270 : decode cX9_turnShares 270 = .ok (.iload 4, 2) := by decide +kernel
theorem dX9_turnShares_272 : decode cX9_turnShares 272 = .ok (.iaload, 1) := by decide +kernel
theorem dX9_turnShares_273 : decode cX9_turnShares 273 = .ok (.aload_n 0, 1) := by decide +kernel
theorem dX9_turnShares_274 : decode cX9_turnShares 274 = .ok (.getfield 59, 3) := by decide +kernel
theorem dX9_turnShares_277 : decode cX9_turnShares 277 = .ok (.iconst 4, 1) := by decide +kernel
theorem dX9_turnShares_278 : decode cX9_turnShares 278 = .ok (.iload_n 2, 1) := by decide +kernel
theorem dX9_turnShares_279 : decode cX9_turnShares 279 = .ok (.imul, 1) := by decide +kernel
theorem dX9_turnShares_280 : decode cX9_turnShares 280 = .ok (.iload 4, 2) := by decide +kernel
theorem dX9_turnShares_282 : decode cX9_turnShares 282 = .ok (.iadd, 1) := by decide +kernel
theorem dX9_turnShares_283 : decode cX9_turnShares 283 = .ok (.iaload, 1) := by decide +kernel
theorem dX9_turnShares_284 : decode cX9_turnShares 284 = .ok (.isub, 1) := by decide +kernel
theorem dX9_turnShares_285 : decode cX9_turnShares 285 = .ok (.istore 5, 2) := by decide +kernel
theorem dX9_turnShares_287 : decode cX9_turnShares 287 = .ok (.iload 5, 2) := by decide +kernel
theorem dX9_turnShares_289 : decode cX9_turnShares 289 = .ok (.iload_n 1, 1) := by decide +kernel
theorem dX9_turnShares_290 : decode cX9_turnShares 290 = .ok (.if_icmp .le 8, 3) := by decide +kernel
theorem dX9_turnShares_293 : decode cX9_turnShares 293 = .ok (.iload 5, 2) := by decide +kernel
theorem dX9_turnShares_295 : decode cX9_turnShares 295 = .ok (.goto 4, 3) := by decide +kernel
theorem dX9_turnShares_298 : decode cX9_turnShares 298 = .ok (.iload_n 1, 1) := by decide +kernel
theorem dX9_turnShares_299 : decode cX9_turnShares 299 = .ok (.istore_n 1, 1) := by decide +kernel
theorem dX9_turnShares_300 : decode cX9_turnShares 300 = .ok (.aload_n 0, 1) := by decide +kernel
theorem dX9_turnShares_301 : decode cX9_turnShares 301 = .ok (.getfield 59, 3) := by decide +kernel
theorem dX9_turnShares_304 : decode cX9_turnShares 304 = .ok (.iconst 4, 1) := by decide +kernel
theorem dX9_turnShares_305 : decode cX9_turnShares 305 = .ok (.iload_n 2, 1) := by decide +kernel
theorem dX9_turnShares_306 : decode cX9_turnShares 306 = .ok (.imul, 1) := by decide +kernel
theorem dX9_turnShares_307 : decode cX9_turnShares 307 = .ok (.iload 4, 2) := by decide +kernel
theorem dX9_turnShares_309 : decode cX9_turnShares 309 = .ok (.iadd, 1) := by decide +kernel
theorem dX9_turnShares_310 : decode cX9_turnShares 310 = .ok (.aload_n 0, 1) := by decide +kernel
theorem dX9_turnShares_311 : decode cX9_turnShares 311 = .ok (.getfield 83, 3) := by decide +kernel
theorem dX9_turnShares_314 : decode cX9_turnShares 314 = .ok (.iload 4, 2) := by decide +kernel
theorem dX9_turnShares_316 : decode cX9_turnShares 316 = .ok (.iaload, 1) := by decide +kernel
theorem dX9_turnShares_317 : decode cX9_turnShares 317 = .ok (.iastore, 1) := by decide +kernel
theorem dX9_turnShares_318 : decode cX9_turnShares 318 = .ok (.iinc 4 1, 3) := by decide +kernel
theorem dX9_turnShares_321 : decode cX9_turnShares 321 = .ok (.goto (-104), 3) := by decide +kernel
theorem dX9_turnShares_324 : decode cX9_turnShares 324 = .ok (.iinc 2 1, 3) := by decide +kernel
theorem dX9_turnShares_327 : decode cX9_turnShares 327 = .ok (.goto (-323), 3) := by decide +kernel
theorem dX9_turnShares_330 : decode cX9_turnShares 330 = .ok (.iload_n 1, 1) := by decide +kernel
theorem dX9_turnShares_331 : decode cX9_turnShares 331 = .ok (.ireturn, 1) := by decide +kernel
theorem dX9_joinAll_0 : decode cX9_joinAll 0 = .ok (.aload_n 0, 1) := by decide +kernel
theorem dX9_joinAll_1 : decode cX9_joinAll 1 = .ok (.invokevirtual 186, 3) := by decide +kernel
theorem dX9_joinAll_4 : decode cX9_joinAll 4 = .ok (.iconst 0, 1) := by decide +kernel
theorem dX9_joinAll_5 : decode cX9_joinAll 5 = .ok (.istore_n 1, 1) := by decide +kernel
theorem dX9_joinAll_6 : decode cX9_joinAll 6 = .ok (.iconst 0, 1) := by decide +kernel
theorem dX9_joinAll_7 : decode cX9_joinAll 7 = .ok (.istore_n 2, 1) := by decide +kernel
theorem dX9_joinAll_8 : decode cX9_joinAll 8 = .ok (.iload_n 2, 1) := by decide +kernel
theorem dX9_joinAll_9 : decode cX9_joinAll 9 = .ok (.ifCond .ne 42, 3) := by decide +kernel
theorem dX9_joinAll_12 : decode cX9_joinAll 12 = .ok (.iload_n 1, 1) := by decide +kernel
theorem dX9_joinAll_13 : decode cX9_joinAll 13 = .ok (.aload_n 0, 1) := by decide +kernel
theorem dX9_joinAll_14 : decode cX9_joinAll 14 = .ok (.getfield 50, 3) := by decide +kernel
theorem dX9_joinAll_17 : decode cX9_joinAll 17 = .ok (.iconst 2, 1) := by decide +kernel
theorem dX9_joinAll_18 : decode cX9_joinAll 18 = .ok (.iaload, 1) := by decide +kernel
theorem dX9_joinAll_19 : decode cX9_joinAll 19 = .ok (.if_icmp .ge 32, 3) := by decide +kernel
theorem dX9_joinAll_22 : decode cX9_joinAll 22 = .ok (.aload_n 0, 1) := by decide +kernel
theorem dX9_joinAll_23 : decode cX9_joinAll 23 = .ok (.invokevirtual 189, 3) := by decide +kernel
theorem dX9_joinAll_26 : decode cX9_joinAll 26 = .ok (.aload_n 0, 1) := by decide +kernel
theorem dX9_joinAll_27 : decode cX9_joinAll 27 = .ok (.invokevirtual 192, 3) := by decide +kernel
theorem dX9_joinAll_30 : decode cX9_joinAll 30 = .ok (.aload_n 0, 1) := by decide +kernel
theorem dX9_joinAll_31 : decode cX9_joinAll 31 = .ok (.getfield 50, 3) := by decide +kernel
theorem dX9_joinAll_34 : decode cX9_joinAll 34 = .ok (.iconst 1, 1) := by decide +kernel
theorem dX9_joinAll_35 : decode cX9_joinAll 35 = .ok (.iaload, 1) := by decide +kernel
theorem dX9_joinAll_36 : decode cX9_joinAll 36 = .ok (.if_icmp .gt 7, 3) := by decide +kernel
theorem dX9_joinAll_39 : decode cX9_joinAll 39 = .ok (.iconst 1, 1) := by decide +kernel
theorem dX9_joinAll_40 : decode cX9_joinAll 40 = .ok (.goto 4, 3) := by decide +kernel
theorem dX9_joinAll_43 : decode cX9_joinAll 43 = .ok (.iconst 0, 1) := by decide +kernel
theorem dX9_joinAll_44 : decode cX9_joinAll 44 = .ok (.istore_n 2, 1) := by decide +kernel
theorem dX9_joinAll_45 : decode cX9_joinAll 45 = .ok (.iinc 1 1, 3) := by decide +kernel
theorem dX9_joinAll_48 : decode cX9_joinAll 48 = .ok (.goto (-40), 3) := by decide +kernel
theorem dX9_joinAll_51 : decode cX9_joinAll 51 = .ok (.iload_n 2, 1) := by decide +kernel
theorem dX9_joinAll_52 : decode cX9_joinAll 52 = .ok (.ifCond .eq 7, 3) := by decide +kernel
theorem dX9_joinAll_55 : decode cX9_joinAll 55 = .ok (.iload_n 1, 1) := by decide +kernel
theorem dX9_joinAll_56 : decode cX9_joinAll 56 = .ok (.goto 7, 3) := by decide +kernel
theorem dX9_joinAll_59 : decode cX9_joinAll 59 = .ok (.iload_n 1, 1) := by decide +kernel
theorem dX9_joinAll_60 : decode cX9_joinAll 60 = .ok (.bipush 100, 2) := by decide +kernel
theorem dX9_joinAll_62 : decode cX9_joinAll 62 = .ok (.isub, 1) := by decide +kernel
theorem dX9_joinAll_63 : decode cX9_joinAll 63 = .ok (.ireturn, 1) := by decide +kernel
theorem dX9_join_0 : decode cX9_join 0 = .ok (.aload_n 0, 1) := by decide +kernel
theorem dX9_join_1 : decode cX9_join 1 = .ok (.invokevirtual 195, 3) := by decide +kernel
theorem dX9_join_4 : decode cX9_join 4 = .ok (.istore_n 1, 1) := by decide +kernel
theorem dX9_join_5 : decode cX9_join 5 = .ok (.aload_n 0, 1) := by decide +kernel
theorem dX9_join_6 : decode cX9_join 6 = .ok (.iconst 1, 1) := by decide +kernel
theorem dX9_join_7 : decode cX9_join 7 = .ok (.putfield 121, 3) := by decide +kernel
theorem dX9_join_10 : decode cX9_join 10 = .ok (.aload_n 0, 1) := by decide +kernel
theorem dX9_join_11 : decode cX9_join 11 = .ok (.aload_n 0, 1) := by decide +kernel
theorem dX9_join_12 : decode cX9_join 12 = .ok (.getfield 115, 3) := by decide +kernel
theorem dX9_join_15 : decode cX9_join 15 = .ok (.putfield 125, 3) := by decide +kernel
theorem dX9_join_18 : decode cX9_join 18 = .ok (.aload_n 0, 1) := by decide +kernel
theorem dX9_join_19 : decode cX9_join 19 = .ok (.aload_n 0, 1) := by decide +kernel
theorem dX9_join_20 : decode cX9_join 20 = .ok (.getfield 118, 3) := by decide +kernel
theorem dX9_join_23 : decode cX9_join 23 = .ok (.putfield 128, 3) := by decide +kernel
theorem dX9_join_26 : decode cX9_join 26 = .ok (.iload_n 1, 1) := by decide +kernel
theorem dX9_join_27 : decode cX9_join 27 = .ok (.ireturn, 1) := by decide +kernel
theorem dX9_share_0 : decode cX9_share 0 = .ok (.aload_n 0, 1) := by decide +kernel
theorem dX9_share_1 : decode cX9_share 1 = .ok (.iload_n 1, 1) := by decide +kernel
theorem dX9_share_2 : decode cX9_share 2 = .ok (.iload_n 2, 1) := by decide +kernel
theorem dX9_share_3 : decode cX9_share 3 = .ok (.invokevirtual 142, 3) := by decide +kernel
theorem dX9_share_6 : decode cX9_share 6 = .ok (.ifCond .eq 12, 3) := by decide +kernel
theorem dX9_share_9 : decode cX9_share 9 = .ok (.aload_n 0, 1) := by decide +kernel
theorem dX9_share_10 : decode cX9_share 10 = .ok (.iload_n 1, 1) := by decide +kernel
theorem dX9_share_11 : decode cX9_share 11 = .ok (.iload_n 2, 1) := by decide +kernel
theorem dX9_share_12 : decode cX9_share 12 = .ok (.invokevirtual 150, 3) := by decide +kernel
theorem dX9_share_15 : decode cX9_share 15 = .ok (.goto 4, 3) := by decide +kernel
theorem dX9_share_18 : decode cX9_share 18 = .ok (.iconst (-1), 1) := by decide +kernel
theorem dX9_share_19 : decode cX9_share 19 = .ok (.ireturn, 1) := by decide +kernel
theorem dX9_table_0 : decode cX9_table 0 = .ok (.aload_n 0, 1) := by decide +kernel
theorem dX9_table_1 : decode cX9_table 1 = .ok (.iload_n 1, 1) := by decide +kernel
theorem dX9_table_2 : decode cX9_table 2 = .ok (.invokevirtual 168, 3) := by decide +kernel
theorem dX9_table_5 : decode cX9_table 5 = .ok (.ifCond .ne 5, 3) := by decide +kernel
theorem dX9_table_8 : decode cX9_table 8 = .ok (.iconst (-1), 1) := by decide +kernel
theorem dX9_table_9 : decode cX9_table 9 = .ok (.ireturn, 1) := by decide +kernel
theorem dX9_table_10 : decode cX9_table 10 = .ok (.iload_n 2, 1) := by decide +kernel
theorem dX9_table_11 : decode cX9_table 11 = .ok (.iconst 2, 1) := by decide +kernel
theorem dX9_table_12 : decode cX9_table 12 = .ok (.iconst 4, 1) := by decide +kernel
theorem dX9_table_13 : decode cX9_table 13 = .ok (.invokestatic 93, 3) := by decide +kernel
theorem dX9_table_16 : decode cX9_table 16 = .ok (.ifCond .eq 26, 3) := by decide +kernel
theorem dX9_table_19 : decode cX9_table 19 = .ok (.iload_n 3, 1) := by decide +kernel
theorem dX9_table_20 : decode cX9_table 20 = .ok (.iconst 0, 1) := by decide +kernel
theorem dX9_table_21 : decode cX9_table 21 = .ok (.iload_n 2, 1) := by decide +kernel
theorem dX9_table_22 : decode cX9_table 22 = .ok (.iconst 1, 1) := by decide +kernel
theorem dX9_table_23 : decode cX9_table 23 = .ok (.isub, 1) := by decide +kernel
theorem dX9_table_24 : decode cX9_table 24 = .ok (.invokestatic 93, 3) := by decide +kernel
theorem dX9_table_27 : decode cX9_table 27 = .ok (.ifCond .eq 15, 3) := by decide +kernel
theorem dX9_table_30 : decode cX9_table 30 = .ok (.iload 4, 2) := by decide +kernel
theorem dX9_table_32 : decode cX9_table 32 = .ok (.iconst 0, 1) := by decide +kernel
theorem dX9_table_33 : decode cX9_table 33 = .ok (.iload_n 2, 1) := by decide +kernel
theorem dX9_table_34 : decode cX9_table 34 = .ok (.iconst 1, 1) := by decide +kernel
theorem dX9_table_35 : decode cX9_table 35 = .ok (.isub, 1) := by decide +kernel
theorem dX9_table_36 : decode cX9_table 36 = .ok (.invokestatic 93, 3) := by decide +kernel
theorem dX9_table_39 : decode cX9_table 39 = .ok (.ifCond .ne 6, 3) := by decide +kernel
theorem dX9_table_42 : decode cX9_table 42 = .ok (.bipush (-2), 2) := by decide +kernel
theorem dX9_table_44 : decode cX9_table 44 = .ok (.ireturn, 1) := by decide +kernel
theorem dX9_table_45 : decode cX9_table 45 = .ok (.aload_n 0, 1) := by decide +kernel
