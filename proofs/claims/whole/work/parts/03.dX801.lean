theorem dX8_table_64 : decode cX8_table 64 = .ok (.iload_n 3, 1) := by decide +kernel
theorem dX8_table_65 : decode cX8_table 65 = .ok (.iload 4, 2) := by decide +kernel
theorem dX8_table_67 : decode cX8_table 67 = .ok (.invokestatic 200, 3) := by decide +kernel
theorem dX8_table_70 : decode cX8_table 70 = .ok (.iaload, 1) := by decide +kernel
theorem dX8_table_71 : decode cX8_table 71 = .ok (.goto 5, 3) := by decide +kernel
theorem dX8_table_74 : decode cX8_table 74 = .ok (.bipush (-6), 2) := by decide +kernel
theorem dX8_table_76 : decode cX8_table 76 = .ok (.ireturn, 1) := by decide +kernel
theorem dX8_next_0 : decode cX8_next 0 = .ok (.iload_n 1, 1) := by decide +kernel
theorem dX8_next_1 : decode cX8_next 1 = .ok (.ifCond .lt 8, 3) := by decide +kernel
theorem dX8_next_4 : decode cX8_next 4 = .ok (.iload_n 1, 1) := by decide +kernel
theorem dX8_next_5 : decode cX8_next 5 = .ok (.iconst 2, 1) := by decide +kernel
theorem dX8_next_6 : decode cX8_next 6 = .ok (.if_icmp .le 6, 3) := by decide +kernel
theorem dX8_next_9 : decode cX8_next 9 = .ok (.bipush (-2), 2) := by decide +kernel
theorem dX8_next_11 : decode cX8_next 11 = .ok (.ireturn, 1) := by decide +kernel
theorem dX8_next_12 : decode cX8_next 12 = .ok (.aload_n 0, 1) := by decide +kernel
theorem dX8_next_13 : decode cX8_next 13 = .ok (.getfield 70, 3) := by decide +kernel
theorem dX8_next_16 : decode cX8_next 16 = .ok (.aload_n 0, 1) := by decide +kernel
theorem dX8_next_17 : decode cX8_next 17 = .ok (.getfield 33, 3) := by decide +kernel
theorem dX8_next_20 : decode cX8_next 20 = .ok (.getfield 102, 3) := by decide +kernel
theorem dX8_next_23 : decode cX8_next 23 = .ok (.if_icmp .eq 6, 3) := by decide +kernel
theorem dX8_next_26 : decode cX8_next 26 = .ok (.bipush (-3), 2) := by decide +kernel
theorem dX8_next_28 : decode cX8_next 28 = .ok (.ireturn, 1) := by decide +kernel
theorem dX8_next_29 : decode cX8_next 29 = .ok (.aload_n 0, 1) := by decide +kernel
theorem dX8_next_30 : decode cX8_next 30 = .ok (.invokevirtual 203, 3) := by decide +kernel
theorem dX8_next_33 : decode cX8_next 33 = .ok (.iload_n 1, 1) := by decide +kernel
theorem dX8_next_34 : decode cX8_next 34 = .ok (.ifCond .ne 8, 3) := by decide +kernel
theorem dX8_next_37 : decode cX8_next 37 = .ok (.aload_n 0, 1) := by decide +kernel
theorem dX8_next_38 : decode cX8_next 38 = .ok (.getfield 74, 3) := by decide +kernel
theorem dX8_next_41 : decode cX8_next 41 = .ok (.ireturn, 1) := by decide +kernel
theorem dX8_next_42 : decode cX8_next 42 = .ok (.iload_n 1, 1) := by decide +kernel
theorem dX8_next_43 : decode cX8_next 43 = .ok (.iconst 1, 1) := by decide +kernel
theorem dX8_next_44 : decode cX8_next 44 = .ok (.if_icmp .ne 10, 3) := by decide +kernel
theorem dX8_next_47 : decode cX8_next 47 = .ok (.aload_n 0, 1) := by decide +kernel
theorem dX8_next_48 : decode cX8_next 48 = .ok (.getfield 77, 3) := by decide +kernel
theorem dX8_next_51 : decode cX8_next 51 = .ok (.goto 7, 3) := by decide +kernel
theorem dX8_next_54 : decode cX8_next 54 = .ok (.aload_n 0, 1) := by decide +kernel
theorem dX8_next_55 : decode cX8_next 55 = .ok (.getfield 80, 3) := by decide +kernel
theorem dX8_next_58 : decode cX8_next 58 = .ok (.ireturn, 1) := by decide +kernel
theorem dX8_right_0 : decode cX8_right 0 = .ok (.aload_n 0, 1) := by decide +kernel
theorem dX8_right_1 : decode cX8_right 1 = .ok (.getfield 33, 3) := by decide +kernel
theorem dX8_right_4 : decode cX8_right 4 = .ok (.iload_n 1, 1) := by decide +kernel
theorem dX8_right_5 : decode cX8_right 5 = .ok (.invokevirtual 176, 3) := by decide +kernel
theorem dX8_right_8 : decode cX8_right 8 = .ok (.ifCond .ne 5, 3) := by decide +kernel
theorem dX8_right_11 : decode cX8_right 11 = .ok (.iconst (-1), 1) := by decide +kernel
theorem dX8_right_12 : decode cX8_right 12 = .ok (.ireturn, 1) := by decide +kernel
theorem dX8_right_13 : decode cX8_right 13 = .ok (.iload_n 2, 1) := by decide +kernel
theorem dX8_right_14 : decode cX8_right 14 = .ok (.tableswitch 58 0 3 #[30, 36, 42, 48], 30) := by decide +kernel
theorem dX8_right_44 : decode cX8_right 44 = .ok (.aload_n 0, 1) := by decide +kernel
theorem dX8_right_45 : decode cX8_right 45 = .ok (.iload_n 1, 1) := by decide +kernel
theorem dX8_right_46 : decode cX8_right 46 = .ok (.invokevirtual 206, 3) := by decide +kernel
theorem dX8_right_49 : decode cX8_right 49 = .ok (.ireturn, 1) := by decide +kernel
theorem dX8_right_50 : decode cX8_right 50 = .ok (.aload_n 0, 1) := by decide +kernel
theorem dX8_right_51 : decode cX8_right 51 = .ok (.iload_n 1, 1) := by decide +kernel
theorem dX8_right_52 : decode cX8_right 52 = .ok (.invokevirtual 209, 3) := by decide +kernel
theorem dX8_right_55 : decode cX8_right 55 = .ok (.ireturn, 1) := by decide +kernel
theorem dX8_right_56 : decode cX8_right 56 = .ok (.aload_n 0, 1) := by decide +kernel
theorem dX8_right_57 : decode cX8_right 57 = .ok (.iload_n 1, 1) := by decide +kernel
theorem dX8_right_58 : decode cX8_right 58 = .ok (.invokevirtual 212, 3) := by decide +kernel
theorem dX8_right_61 : decode cX8_right 61 = .ok (.ireturn, 1) := by decide +kernel
theorem dX8_right_62 : decode cX8_right 62 = .ok (.aload_n 0, 1) := by decide +kernel
theorem dX8_right_63 : decode cX8_right 63 = .ok (.getfield 33, 3) := by decide +kernel
theorem dX8_right_66 : decode cX8_right 66 = .ok (.getfield 215, 3) := by decide +kernel
theorem dX8_right_69 : decode cX8_right 69 = .ok (.iload_n 1, 1) := by decide +kernel
theorem dX8_right_70 : decode cX8_right 70 = .ok (.iaload, 1) := by decide +kernel
theorem dX8_right_71 : decode cX8_right 71 = .ok (.ireturn, 1) := by decide +kernel
theorem dX8_right_72 : decode cX8_right 72 = .ok (.bipush (-2), 2) := by decide +kernel
theorem dX8_right_74 : decode cX8_right 74 = .ok (.ireturn, 1) := by decide +kernel
theorem dX8_guessing_0 : decode cX8_guessing 0 = .ok (.aload_n 0, 1) := by decide +kernel
theorem dX8_guessing_1 : decode cX8_guessing 1 = .ok (.getfield 33, 3) := by decide +kernel
theorem dX8_guessing_4 : decode cX8_guessing 4 = .ok (.iload_n 1, 1) := by decide +kernel
theorem dX8_guessing_5 : decode cX8_guessing 5 = .ok (.invokevirtual 176, 3) := by decide +kernel
theorem dX8_guessing_8 : decode cX8_guessing 8 = .ok (.ifCond .ne 7, 3) := by decide +kernel
theorem dX8_guessing_11 : decode cX8_guessing 11 = .ok (.ldc2_w 218, 3) := by decide +kernel
theorem dX8_guessing_14 : decode cX8_guessing 14 = .ok (.lreturn, 1) := by decide +kernel
theorem dX8_guessing_15 : decode cX8_guessing 15 = .ok (.iload_n 2, 1) := by decide +kernel
theorem dX8_guessing_16 : decode cX8_guessing 16 = .ok (.ifCond .lt 8, 3) := by decide +kernel
theorem dX8_guessing_19 : decode cX8_guessing 19 = .ok (.iload_n 2, 1) := by decide +kernel
theorem dX8_guessing_20 : decode cX8_guessing 20 = .ok (.iconst 1, 1) := by decide +kernel
theorem dX8_guessing_21 : decode cX8_guessing 21 = .ok (.if_icmp .le 7, 3) := by decide +kernel
theorem dX8_guessing_24 : decode cX8_guessing 24 = .ok (.ldc2_w 220, 3) := by decide +kernel
theorem dX8_guessing_27 : decode cX8_guessing 27 = .ok (.lreturn, 1) := by decide +kernel
theorem dX8_guessing_28 : decode cX8_guessing 28 = .ok (.aload_n 0, 1) := by decide +kernel
theorem dX8_guessing_29 : decode cX8_guessing 29 = .ok (.getfield 59, 3) := by decide +kernel
theorem dX8_guessing_32 : decode cX8_guessing 32 = .ok (.invokevirtual 222, 3) := by decide +kernel
theorem dX8_guessing_35 : decode cX8_guessing 35 = .ok (.iconst 0, 1) := by decide +kernel
theorem dX8_guessing_36 : decode cX8_guessing 36 = .ok (.istore_n 3, 1) := by decide +kernel
theorem dX8_guessing_37 : decode cX8_guessing 37 = .ok (.iload_n 3, 1) := by decide +kernel
theorem dX8_guessing_38 : decode cX8_guessing 38 = .ok (.aload_n 0, 1) := by decide +kernel
theorem dX8_guessing_39 : decode cX8_guessing 39 = .ok (.getfield 26, 3) := by decide +kernel
theorem dX8_guessing_42 : decode cX8_guessing 42 = .ok (.getfield 101, 3) := by decide +kernel
theorem dX8_guessing_45 : decode cX8_guessing 45 = .ok (.if_icmp .ge 34, 3) := by decide +kernel
theorem dX8_guessing_48 : decode cX8_guessing 48 = .ok (.aload_n 0, 1) := by decide +kernel
theorem dX8_guessing_49 : decode cX8_guessing 49 = .ok (.iload_n 1, 1) := by decide +kernel
theorem dX8_guessing_50 : decode cX8_guessing 50 = .ok (.iload_n 3, 1) := by decide +kernel
theorem dX8_guessing_51 : decode cX8_guessing 51 = .ok (.invokevirtual 225, 3) := by decide +kernel
theorem dX8_guessing_54 : decode cX8_guessing 54 = .ok (.ifCond .eq 19, 3) := by decide +kernel
theorem dX8_guessing_57 : decode cX8_guessing 57 = .ok (.aload_n 0, 1) := by decide +kernel
theorem dX8_guessing_58 : decode cX8_guessing 58 = .ok (.getfield 59, 3) := by decide +kernel
theorem dX8_guessing_61 : decode cX8_guessing 61 = .ok (.aload_n 0, 1) := by decide +kernel
theorem dX8_guessing_62 : decode cX8_guessing 62 = .ok (.getfield 26, 3) := by decide +kernel
theorem dX8_guessing_65 : decode cX8_guessing 65 = .ok (.getfield 160, 3) := by decide +kernel
theorem dX8_guessing_68 : decode cX8_guessing 68 = .ok (.iload_n 3, 1) := by decide +kernel
theorem dX8_guessing_69 : decode cX8_guessing 69 = .ok (.iaload, 1) := by decide +kernel
theorem dX8_guessing_70 : decode cX8_guessing 70 = .ok (.invokevirtual 228, 3) := by decide +kernel
theorem dX8_guessing_73 : decode cX8_guessing 73 = .ok (.iinc 3 1, 3) := by decide +kernel
theorem dX8_guessing_76 : decode cX8_guessing 76 = .ok (.goto (-39), 3) := by decide +kernel
theorem dX8_guessing_79 : decode cX8_guessing 79 = .ok (.aload_n 0, 1) := by decide +kernel
theorem dX8_guessing_80 : decode cX8_guessing 80 = .ok (.getfield 59, 3) := by decide +kernel
theorem dX8_guessing_83 : decode cX8_guessing 83 = .ok (.aload_n 0, 1) := by decide +kernel
theorem dX8_guessing_84 : decode cX8_guessing 84 = .ok (.iload_n 1, 1) := by decide +kernel
theorem dX8_guessing_85 : decode cX8_guessing 85 = .ok (.invokevirtual 212, 3) := by decide +kernel
theorem dX8_guessing_88 : decode cX8_guessing 88 = .ok (.invokevirtual 231, 3) := by decide +kernel
theorem dX8_guessing_91 : decode cX8_guessing 91 = .ok (.aload_n 0, 1) := by decide +kernel
theorem dX8_guessing_92 : decode cX8_guessing 92 = .ok (.getfield 59, 3) := by decide +kernel
theorem dX8_guessing_95 : decode cX8_guessing 95 = .ok (.iload_n 2, 1) := by decide +kernel
theorem dX8_guessing_96 : decode cX8_guessing 96 = .ok (.invokevirtual 234, 3) := by decide +kernel
theorem dX8_guessing_99 : decode cX8_guessing 99 = .ok (.lreturn, 1) := by decide +kernel
theorem dX8_copying_0 : decode cX8_copying 0 = .ok (.aload_n 0, 1) := by decide +kernel
theorem dX8_copying_1 : decode cX8_copying 1 = .ok (.getfield 33, 3) := by decide +kernel
theorem dX8_copying_4 : decode cX8_copying 4 = .ok (.iload_n 1, 1) := by decide +kernel
theorem dX8_copying_5 : decode cX8_copying 5 = .ok (.invokevirtual 176, 3) := by decide +kernel
theorem dX8_copying_8 : decode cX8_copying 8 = .ok (.ifCond .eq 19, 3) := by decide +kernel
theorem dX8_copying_11 : decode cX8_copying 11 = .ok (.aload_n 0, 1) := by decide +kernel
theorem dX8_copying_12 : decode cX8_copying 12 = .ok (.getfield 33, 3) := by decide +kernel
theorem dX8_copying_15 : decode cX8_copying 15 = .ok (.iload_n 2, 1) := by decide +kernel
theorem dX8_copying_16 : decode cX8_copying 16 = .ok (.invokevirtual 176, 3) := by decide +kernel
theorem dX8_copying_19 : decode cX8_copying 19 = .ok (.ifCond .eq 8, 3) := by decide +kernel
theorem dX8_copying_22 : decode cX8_copying 22 = .ok (.iload_n 1, 1) := by decide +kernel
theorem dX8_copying_23 : decode cX8_copying 23 = .ok (.iload_n 2, 1) := by decide +kernel
theorem dX8_copying_24 : decode cX8_copying 24 = .ok (.if_icmp .ne 7, 3) := by decide +kernel
theorem dX8_copying_27 : decode cX8_copying 27 = .ok (.ldc2_w 218, 3) := by decide +kernel
theorem dX8_copying_30 : decode cX8_copying 30 = .ok (.lreturn, 1) := by decide +kernel
theorem dX8_copying_31 : decode cX8_copying 31 = .ok (.iload_n 3, 1) := by decide +kernel
theorem dX8_copying_32 : decode cX8_copying 32 = .ok (.ifCond .lt 8, 3) := by decide +kernel
theorem dX8_copying_35 : decode cX8_copying 35 = .ok (.iload_n 3, 1) := by decide +kernel
theorem dX8_copying_36 : decode cX8_copying 36 = .ok (.iconst 1, 1) := by decide +kernel
theorem dX8_copying_37 : decode cX8_copying 37 = .ok (.if_icmp .le 7, 3) := by decide +kernel
theorem dX8_copying_40 : decode cX8_copying 40 = .ok (.ldc2_w 220, 3) := by decide +kernel
theorem dX8_copying_43 : decode cX8_copying 43 = .ok (.lreturn, 1) := by decide +kernel
theorem dX8_copying_44 : decode cX8_copying 44 = .ok (.aload_n 0, 1) := by decide +kernel
theorem dX8_copying_45 : decode cX8_copying 45 = .ok (.getfield 59, 3) := by decide +kernel
theorem dX8_copying_48 : decode cX8_copying 48 = .ok (.invokevirtual 222, 3) := by decide +kernel
theorem dX8_copying_51 : decode cX8_copying 51 = .ok (.iconst 0, 1) := by decide +kernel
theorem dX8_copying_52 : decode cX8_copying 52 = .ok (.istore 4, 2) := by decide +kernel
theorem dX8_copying_54 : decode cX8_copying 54 = .ok (.iconst 0, 1) := by decide +kernel
theorem dX8_copying_55 : decode cX8_copying 55 = .ok (.istore 5, 2) := by decide +kernel
theorem dX8_copying_57 : decode cX8_copying 57 = .ok (.iload 5, 2) := by decide +kernel
theorem dX8_copying_59 : decode cX8_copying 59 = .ok (.aload_n 0, 1) := by decide +kernel
theorem dX8_copying_60 : decode cX8_copying 60 = .ok (.getfield 26, 3) := by decide +kernel
theorem dX8_copying_63 : decode cX8_copying 63 = .ok (.getfield 101, 3) := by decide +kernel
theorem dX8_copying_66 : decode cX8_copying 66 = .ok (.if_icmp .ge 101, 3) := by decide +kernel
theorem dX8_copying_69 : decode cX8_copying 69 = .ok (.aload_n 0, 1) := by decide +kernel
theorem dX8_copying_70 : decode cX8_copying 70 = .ok (.getfield 59, 3) := by decide +kernel
theorem dX8_copying_73 : decode cX8_copying 73 = .ok (.getfield 238, 3) := by decide +kernel
theorem dX8_copying_76 : decode cX8_copying 76 = .ok (.bipush 14, 2) := by decide +kernel
theorem dX8_copying_78 : decode cX8_copying 78 = .ok (.if_icmp .ge 89, 3) := by decide +kernel
theorem dX8_copying_81 : decode cX8_copying 81 = .ok (.aload_n 0, 1) := by decide +kernel
theorem dX8_copying_82 : decode cX8_copying 82 = .ok (.getfield 33, 3) := by decide +kernel
theorem dX8_copying_85 : decode cX8_copying 85 = .ok (.iload_n 1, 1) := by decide +kernel
theorem dX8_copying_86 : decode cX8_copying 86 = .ok (.iload 5, 2) := by decide +kernel
theorem dX8_copying_88 : decode cX8_copying 88 = .ok (.invokevirtual 241, 3) := by decide +kernel
theorem dX8_copying_91 : decode cX8_copying 91 = .ok (.ifCond .eq 70, 3) := by decide +kernel
theorem dX8_copying_94 : decode cX8_copying 94 = .ok (.aload_n 0, 1) := by decide +kernel
theorem dX8_copying_95 : decode cX8_copying 95 = .ok (.getfield 33, 3) := by decide +kernel
theorem dX8_copying_98 : decode cX8_copying 98 = .ok (.iload_n 2, 1) := by decide +kernel
theorem dX8_copying_99 : decode cX8_copying 99 = .ok (.iload 5, 2) := by decide +kernel
theorem dX8_copying_101 : decode cX8_copying 101 = .ok (.invokevirtual 241, 3) := by decide +kernel
theorem dX8_copying_104 : decode cX8_copying 104 = .ok (.ifCond .eq 57, 3) := by decide +kernel
theorem dX8_copying_107 : decode cX8_copying 107 = .ok (.aload_n 0, 1) := by decide +kernel
theorem dX8_copying_108 : decode cX8_copying 108 = .ok (.getfield 59, 3) := by decide +kernel
theorem dX8_copying_111 : decode cX8_copying 111 = .ok (.aload_n 0, 1) := by decide +kernel
theorem dX8_copying_112 : decode cX8_copying 112 = .ok (.getfield 26, 3) := by decide +kernel
theorem dX8_copying_115 : decode cX8_copying 115 = .ok (.getfield 160, 3) := by decide +kernel
theorem dX8_copying_118 : decode cX8_copying 118 = .ok (.iload 5, 2) := by decide +kernel
theorem dX8_copying_120 : decode cX8_copying 120 = .ok (.iaload, 1) := by decide +kernel
theorem dX8_copying_121 : decode cX8_copying 121 = .ok (.invokevirtual 228, 3) := by decide +kernel
theorem dX8_copying_124 : decode cX8_copying 124 = .ok (.iload 4, 2) := by decide +kernel
theorem dX8_copying_126 : decode cX8_copying 126 = .ok (.aload_n 0, 1) := by decide +kernel
theorem dX8_copying_127 : decode cX8_copying 127 = .ok (.getfield 33, 3) := by decide +kernel
theorem dX8_copying_130 : decode cX8_copying 130 = .ok (.getfield 181, 3) := by decide +kernel
theorem dX8_copying_133 : decode cX8_copying 133 = .ok (.iload_n 1, 1) := by decide +kernel
theorem dX8_copying_134 : decode cX8_copying 134 = .ok (.aaload, 1) := by decide +kernel
theorem dX8_copying_135 : decode cX8_copying 135 = .ok (.iload 5, 2) := by decide +kernel
theorem dX8_copying_137 : decode cX8_copying 137 = .ok (.iaload, 1) := by decide +kernel
theorem dX8_copying_138 : decode cX8_copying 138 = .ok (.aload_n 0, 1) := by decide +kernel
theorem dX8_copying_139 : decode cX8_copying 139 = .ok (.getfield 33, 3) := by decide +kernel
theorem dX8_copying_142 : decode cX8_copying 142 = .ok (.getfield 181, 3) := by decide +kernel
theorem dX8_copying_145 : decode cX8_copying 145 = .ok (.iload_n 2, 1) := by decide +kernel
theorem dX8_copying_146 : decode cX8_copying 146 = .ok (.aaload, 1) := by decide +kernel
theorem dX8_copying_147 : decode cX8_copying 147 = .ok (.iload 5, 2) := by decide +kernel
theorem dX8_copying_149 : decode cX8_copying 149 = .ok (.iaload, 1) := by decide +kernel
theorem dX8_copying_150 : decode cX8_copying 150 = .ok (.if_icmp .ne 7, 3) := by decide +kernel
theorem dX8_copying_153 : decode cX8_copying 153 = .ok (.iconst 1, 1) := by decide +kernel
theorem dX8_copying_154 : decode cX8_copying 154 = .ok (.goto 4, 3) := by decide +kernel
theorem dX8_copying_157 : decode cX8_copying 157 = .ok (.iconst 0, 1) := by decide +kernel
theorem dX8_copying_158 : decode cX8_copying 158 = .ok (.iadd, 1) := by decide +kernel
theorem dX8_copying_159 : decode cX8_copying 159 = .ok (.istore 4, 2) := by decide +kernel
theorem dX8_copying_161 : decode cX8_copying 161 = .ok (.iinc 5 1, 3) := by decide +kernel
theorem dX8_copying_164 : decode cX8_copying 164 = .ok (.goto (-107), 3) := by decide +kernel
theorem dX8_copying_167 : decode cX8_copying 167 = .ok (.aload_n 0, 1) := by decide +kernel
theorem dX8_copying_168 : decode cX8_copying 168 = .ok (.getfield 59, 3) := by decide +kernel
theorem dX8_copying_171 : decode cX8_copying 171 = .ok (.iload 4, 2) := by decide +kernel
theorem dX8_copying_173 : decode cX8_copying 173 = .ok (.invokevirtual 231, 3) := by decide +kernel
theorem dX8_copying_176 : decode cX8_copying 176 = .ok (.aload_n 0, 1) := by decide +kernel
theorem dX8_copying_177 : decode cX8_copying 177 = .ok (.getfield 59, 3) := by decide +kernel
theorem dX8_copying_180 : decode cX8_copying 180 = .ok (.iload_n 3, 1) := by decide +kernel
theorem dX8_copying_181 : decode cX8_copying 181 = .ok (.invokevirtual 234, 3) := by decide +kernel
theorem dX8_copying_184 : decode cX8_copying 184 = .ok (.lreturn, 1) := by decide +kernel
theorem dX8_misread_0 : decode cX8_misread 0 = .ok (.iload_n 1, 1) := by decide +kernel
theorem dX8_misread_1 : decode cX8_misread 1 = .ok (.iconst 1, 1) := by decide +kernel
theorem dX8_misread_2 : decode cX8_misread 2 = .ok (.if_icmp .lt 9, 3) := by decide +kernel
theorem dX8_misread_5 : decode cX8_misread 5 = .ok (.iload_n 1, 1) := by decide +kernel
theorem dX8_misread_6 : decode cX8_misread 6 = .ok (.bipush 10, 2) := by decide +kernel
theorem dX8_misread_8 : decode cX8_misread 8 = .ok (.if_icmp .le 6, 3) := by decide +kernel
theorem dX8_misread_11 : decode cX8_misread 11 = .ok (.bipush (-2), 2) := by decide +kernel
theorem dX8_misread_13 : decode cX8_misread 13 = .ok (.ireturn, 1) := by decide +kernel
theorem dX8_misread_14 : decode cX8_misread 14 = .ok (.iconst 0, 1) := by decide +kernel
theorem dX8_misread_15 : decode cX8_misread 15 = .ok (.istore_n 2, 1) := by decide +kernel
theorem dX8_misread_16 : decode cX8_misread 16 = .ok (.iconst 0, 1) := by decide +kernel
theorem dX8_misread_17 : decode cX8_misread 17 = .ok (.istore_n 3, 1) := by decide +kernel
theorem dX8_misread_18 : decode cX8_misread 18 = .ok (.iload_n 3, 1) := by decide +kernel
theorem dX8_misread_19 : decode cX8_misread 19 = .ok (.aload_n 0, 1) := by decide +kernel
theorem dX8_misread_20 : decode cX8_misread 20 = .ok (.getfield 26, 3) := by decide +kernel
theorem dX8_misread_23 : decode cX8_misread 23 = .ok (.getfield 101, 3) := by decide +kernel
theorem dX8_misread_26 : decode cX8_misread 26 = .ok (.if_icmp .ge 44, 3) := by decide +kernel
theorem dX8_misread_29 : decode cX8_misread 29 = .ok (.aload_n 0, 1) := by decide +kernel
theorem dX8_misread_30 : decode cX8_misread 30 = .ok (.getfield 26, 3) := by decide +kernel
theorem dX8_misread_33 : decode cX8_misread 33 = .ok (.getfield 141, 3) := by decide +kernel
theorem dX8_misread_36 : decode cX8_misread 36 = .ok (.iload_n 3, 1) := by decide +kernel
theorem dX8_misread_37 : decode cX8_misread 37 = .ok (.iaload, 1) := by decide +kernel
theorem dX8_misread_38 : decode cX8_misread 38 = .ok (.bipush (-6), 2) := by decide +kernel
theorem dX8_misread_40 : decode cX8_misread 40 = .ok (.if_icmp .eq 24, 3) := by decide +kernel
theorem dX8_misread_43 : decode cX8_misread 43 = .ok (.aload_n 0, 1) := by decide +kernel
theorem dX8_misread_44 : decode cX8_misread 44 = .ok (.iload_n 3, 1) := by decide +kernel
theorem dX8_misread_45 : decode cX8_misread 45 = .ok (.iload_n 1, 1) := by decide +kernel
theorem dX8_misread_46 : decode cX8_misread 46 = .ok (.invokevirtual 244, 3) := by decide +kernel
theorem dX8_misread_49 : decode cX8_misread 49 = .ok (.ifCond .eq 15, 3) := by decide +kernel
theorem dX8_misread_52 : decode cX8_misread 52 = .ok (.iload_n 2, 1) := by decide +kernel
theorem dX8_misread_53 : decode cX8_misread 53 = .ok (.aload_n 0, 1) := by decide +kernel
theorem dX8_misread_54 : decode cX8_misread 54 = .ok (.getfield 26, 3) := by decide +kernel
theorem dX8_misread_57 : decode cX8_misread 57 = .ok (.getfield 151, 3) := by decide +kernel
theorem dX8_misread_60 : decode cX8_misread 60 = .ok (.iload_n 3, 1) := by decide +kernel
theorem dX8_misread_61 : decode cX8_misread 61 = .ok (.iaload, 1) := by decide +kernel
theorem dX8_misread_62 : decode cX8_misread 62 = .ok (.ior, 1) := by decide +kernel
theorem dX8_misread_63 : decode cX8_misread 63 = .ok (.istore_n 2, 1) := by decide +kernel
theorem dX8_misread_64 : decode cX8_misread 64 = .ok (.iinc 3 1, 3) := by decide +kernel
theorem dX8_misread_67 : decode cX8_misread 67 = .ok (.goto (-49), 3) := by decide +kernel
theorem dX8_misread_70 : decode cX8_misread 70 = .ok (.iload_n 2, 1) := by decide +kernel
theorem dX8_misread_71 : decode cX8_misread 71 = .ok (.ireturn, 1) := by decide +kernel
theorem dX8_deal_0 : decode cX8_deal 0 = .ok (.iload_n 1, 1) := by decide +kernel
theorem dX8_deal_1 : decode cX8_deal 1 = .ok (.iconst 1, 1) := by decide +kernel
theorem dX8_deal_2 : decode cX8_deal 2 = .ok (.if_icmp .lt 9, 3) := by decide +kernel
theorem dX8_deal_5 : decode cX8_deal 5 = .ok (.iload_n 1, 1) := by decide +kernel
theorem dX8_deal_6 : decode cX8_deal 6 = .ok (.ldc 247, 2) := by decide +kernel
theorem dX8_deal_8 : decode cX8_deal 8 = .ok (.if_icmp .le 6, 3) := by decide +kernel
theorem dX8_deal_11 : decode cX8_deal 11 = .ok (.bipush (-2), 2) := by decide +kernel
theorem dX8_deal_13 : decode cX8_deal 13 = .ok (.ireturn, 1) := by decide +kernel
theorem dX8_deal_14 : decode cX8_deal 14 = .ok (.iload_n 1, 1) := by decide +kernel
theorem dX8_deal_15 : decode cX8_deal 15 = .ok (.i2l, 1) := by decide +kernel
theorem dX8_deal_16 : decode cX8_deal 16 = .ok (.lstore_n 2, 1) := by decide +kernel
theorem dX8_deal_17 : decode cX8_deal 17 = .ok (.iconst 0, 1) := by decide +kernel
theorem dX8_deal_18 : decode cX8_deal 18 = .ok (.istore 4, 2) := by decide +kernel
theorem dX8_deal_20 : decode cX8_deal 20 = .ok (.iconst 0, 1) := by decide +kernel
theorem dX8_deal_21 : decode cX8_deal 21 = .ok (.istore 5, 2) := by decide +kernel
theorem dX8_deal_23 : decode cX8_deal 23 = .ok (.iload 5, 2) := by decide +kernel
theorem dX8_deal_25 : decode cX8_deal 25 = .ok (.aload_n 0, 1) := by decide +kernel
theorem dX8_deal_26 : decode cX8_deal 26 = .ok (.getfield 33, 3) := by decide +kernel
theorem dX8_deal_29 : decode cX8_deal 29 = .ok (.getfield 102, 3) := by decide +kernel
theorem dX8_deal_32 : decode cX8_deal 32 = .ok (.if_icmp .ge 50, 3) := by decide +kernel
theorem dX8_deal_35 : decode cX8_deal 35 = .ok (.lload_n 2, 1) := by decide +kernel
theorem dX8_deal_36 : decode cX8_deal 36 = .ok (.ldc2_w 248, 3) := by decide +kernel
theorem dX8_deal_39 : decode cX8_deal 39 = .ok (.lmul, 1) := by decide +kernel
theorem dX8_deal_40 : decode cX8_deal 40 = .ok (.ldc2_w 250, 3) := by decide +kernel
theorem dX8_deal_43 : decode cX8_deal 43 = .ok (.lrem, 1) := by decide +kernel
theorem dX8_deal_44 : decode cX8_deal 44 = .ok (.lstore_n 2, 1) := by decide +kernel
theorem dX8_deal_45 : decode cX8_deal 45 = .ok (.aload_n 0, 1) := by decide +kernel
theorem dX8_deal_46 : decode cX8_deal 46 = .ok (.getfield 33, 3) := by decide +kernel
theorem dX8_deal_49 : decode cX8_deal 49 = .ok (.getfield 215, 3) := by decide +kernel
theorem dX8_deal_52 : decode cX8_deal 52 = .ok (.iload 5, 2) := by decide +kernel
theorem dX8_deal_54 : decode cX8_deal 54 = .ok (.lload_n 2, 1) := by decide +kernel
theorem dX8_deal_55 : decode cX8_deal 55 = .ok (.ldc2_w 252, 3) := by decide +kernel
theorem dX8_deal_58 : decode cX8_deal 58 = .ok (.lrem, 1) := by decide +kernel
theorem dX8_deal_59 : decode cX8_deal 59 = .ok (.l2i, 1) := by decide +kernel
theorem dX8_deal_60 : decode cX8_deal 60 = .ok (.iastore, 1) := by decide +kernel
theorem dX8_deal_61 : decode cX8_deal 61 = .ok (.iload 4, 2) := by decide +kernel
theorem dX8_deal_63 : decode cX8_deal 63 = .ok (.aload_n 0, 1) := by decide +kernel
theorem dX8_deal_64 : decode cX8_deal 64 = .ok (.getfield 33, 3) := by decide +kernel
theorem dX8_deal_67 : decode cX8_deal 67 = .ok (.getfield 215, 3) := by decide +kernel
theorem dX8_deal_70 : decode cX8_deal 70 = .ok (.iload 5, 2) := by decide +kernel
theorem dX8_deal_72 : decode cX8_deal 72 = .ok (.iaload, 1) := by decide +kernel
theorem dX8_deal_73 : decode cX8_deal 73 = .ok (.iadd, 1) := by decide +kernel
theorem dX8_deal_74 : decode cX8_deal 74 = .ok (.istore 4, 2) := by decide +kernel
theorem dX8_deal_76 : decode cX8_deal 76 = .ok (.iinc 5 1, 3) := by decide +kernel
theorem dX8_deal_79 : decode cX8_deal 79 = .ok (.goto (-56), 3) := by decide +kernel
theorem dX8_deal_82 : decode cX8_deal 82 = .ok (.iload 4, 2) := by decide +kernel
theorem dX8_deal_84 : decode cX8_deal 84 = .ok (.ireturn, 1) := by decide +kernel
theorem dX8_better_0 : decode cX8_better 0 = .ok (.iload_n 1, 1) := by decide +kernel
theorem dX8_better_1 : decode cX8_better 1 = .ok (.ifCond .lt 8, 3) := by decide +kernel
theorem dX8_better_4 : decode cX8_better 4 = .ok (.iload_n 1, 1) := by decide +kernel
theorem dX8_better_5 : decode cX8_better 5 = .ok (.iconst 1, 1) := by decide +kernel
theorem dX8_better_6 : decode cX8_better 6 = .ok (.if_icmp .le 7, 3) := by decide +kernel
theorem dX8_better_9 : decode cX8_better 9 = .ok (.ldc2_w 220, 3) := by decide +kernel
theorem dX8_better_12 : decode cX8_better 12 = .ok (.lreturn, 1) := by decide +kernel
theorem dX8_better_13 : decode cX8_better 13 = .ok (.iconst 0, 1) := by decide +kernel
theorem dX8_better_14 : decode cX8_better 14 = .ok (.istore_n 2, 1) := by decide +kernel
theorem dX8_better_15 : decode cX8_better 15 = .ok (.iconst 0, 1) := by decide +kernel
theorem dX8_better_16 : decode cX8_better 16 = .ok (.istore_n 3, 1) := by decide +kernel
theorem dX8_better_17 : decode cX8_better 17 = .ok (.iconst 0, 1) := by decide +kernel
theorem dX8_better_18 : decode cX8_better 18 = .ok (.istore 4, 2) := by decide +kernel
theorem dX8_better_20 : decode cX8_better 20 = .ok (.iconst 0, 1) := by decide +kernel
theorem dX8_better_21 : decode cX8_better 21 = .ok (.istore 5, 2) := by decide +kernel
theorem dX8_better_23 : decode cX8_better 23 = .ok (.iconst 0, 1) := by decide +kernel
theorem dX8_better_24 : decode cX8_better 24 = .ok (.istore 6, 2) := by decide +kernel
theorem dX8_better_26 : decode cX8_better 26 = .ok (.iload 6, 2) := by decide +kernel
theorem dX8_better_28 : decode cX8_better 28 = .ok (.aload_n 0, 1) := by decide +kernel
theorem dX8_better_29 : decode cX8_better 29 = .ok (.getfield 33, 3) := by decide +kernel
theorem dX8_better_32 : decode cX8_better 32 = .ok (.getfield 102, 3) := by decide +kernel
theorem dX8_better_35 : decode cX8_better 35 = .ok (.if_icmp .ge 106, 3) := by decide +kernel
theorem dX8_better_38 : decode cX8_better 38 = .ok (.iconst 0, 1) := by decide +kernel
theorem dX8_better_39 : decode cX8_better 39 = .ok (.istore 7, 2) := by decide +kernel
theorem dX8_better_41 : decode cX8_better 41 = .ok (.iload 7, 2) := by decide +kernel
theorem dX8_better_43 : decode cX8_better 43 = .ok (.aload_n 0, 1) := by decide +kernel
theorem dX8_better_44 : decode cX8_better 44 = .ok (.getfield 26, 3) := by decide +kernel
theorem dX8_better_47 : decode cX8_better 47 = .ok (.getfield 101, 3) := by decide +kernel
theorem dX8_better_50 : decode cX8_better 50 = .ok (.if_icmp .ge 85, 3) := by decide +kernel
theorem dX8_better_53 : decode cX8_better 53 = .ok (.iload_n 2, 1) := by decide +kernel
theorem dX8_better_54 : decode cX8_better 54 = .ok (.bipush 40, 2) := by decide +kernel
theorem dX8_better_56 : decode cX8_better 56 = .ok (.if_icmp .ge 79, 3) := by decide +kernel
theorem dX8_better_59 : decode cX8_better 59 = .ok (.aload_n 0, 1) := by decide +kernel
theorem dX8_better_60 : decode cX8_better 60 = .ok (.iload 6, 2) := by decide +kernel
theorem dX8_better_62 : decode cX8_better 62 = .ok (.iload 7, 2) := by decide +kernel
theorem dX8_better_64 : decode cX8_better 64 = .ok (.invokevirtual 225, 3) := by decide +kernel
theorem dX8_better_67 : decode cX8_better 67 = .ok (.ifCond .eq 62, 3) := by decide +kernel
theorem dX8_better_70 : decode cX8_better 70 = .ok (.aload_n 0, 1) := by decide +kernel
theorem dX8_better_71 : decode cX8_better 71 = .ok (.iload 6, 2) := by decide +kernel
theorem dX8_better_73 : decode cX8_better 73 = .ok (.iload 7, 2) := by decide +kernel
theorem dX8_better_75 : decode cX8_better 75 = .ok (.invokevirtual 254, 3) := by decide +kernel
theorem dX8_better_78 : decode cX8_better 78 = .ok (.ifCond .eq 7, 3) := by decide +kernel
theorem dX8_better_81 : decode cX8_better 81 = .ok (.iconst 1, 1) := by decide +kernel
theorem dX8_better_82 : decode cX8_better 82 = .ok (.goto 4, 3) := by decide +kernel
theorem dX8_better_85 : decode cX8_better 85 = .ok (.iconst 0, 1) := by decide +kernel
theorem dX8_better_86 : decode cX8_better 86 = .ok (.istore 8, 2) := by decide +kernel
theorem dX8_better_88 : decode cX8_better 88 = .ok (.iinc 2 1, 3) := by decide +kernel
theorem dX8_better_91 : decode cX8_better 91 = .ok (.iload_n 3, 1) := by decide +kernel
theorem dX8_better_92 : decode cX8_better 92 = .ok (.iload 8, 2) := by decide +kernel
theorem dX8_better_94 : decode cX8_better 94 = .ok (.iadd, 1) := by decide +kernel
theorem dX8_better_95 : decode cX8_better 95 = .ok (.istore_n 3, 1) := by decide +kernel
theorem dX8_better_96 : decode cX8_better 96 = .ok (.iload 4, 2) := by decide +kernel
theorem dX8_better_98 : decode cX8_better 98 = .ok (.aload_n 0, 1) := by decide +kernel
theorem dX8_better_99 : decode cX8_better 99 = .ok (.getfield 33, 3) := by decide +kernel
theorem dX8_better_102 : decode cX8_better 102 = .ok (.getfield 215, 3) := by decide +kernel
theorem dX8_better_105 : decode cX8_better 105 = .ok (.iload 6, 2) := by decide +kernel
theorem dX8_better_107 : decode cX8_better 107 = .ok (.iaload, 1) := by decide +kernel
theorem dX8_better_108 : decode cX8_better 108 = .ok (.iadd, 1) := by decide +kernel
theorem dX8_better_109 : decode cX8_better 109 = .ok (.istore 4, 2) := by decide +kernel
theorem dX8_better_111 : decode cX8_better 111 = .ok (.iload 5, 2) := by decide +kernel
theorem dX8_better_113 : decode cX8_better 113 = .ok (.iload 8, 2) := by decide +kernel
theorem dX8_better_115 : decode cX8_better 115 = .ok (.aload_n 0, 1) := by decide +kernel
theorem dX8_better_116 : decode cX8_better 116 = .ok (.getfield 33, 3) := by decide +kernel
theorem dX8_better_119 : decode cX8_better 119 = .ok (.getfield 215, 3) := by decide +kernel
theorem dX8_better_122 : decode cX8_better 122 = .ok (.iload 6, 2) := by decide +kernel
theorem dX8_better_124 : decode cX8_better 124 = .ok (.iaload, 1) := by decide +kernel
theorem dX8_better_125 : decode cX8_better 125 = .ok (.imul, 1) := by decide +kernel
theorem dX8_better_126 : decode cX8_better 126 = .ok (.iadd, 1) := by decide +kernel
theorem dX8_better_127 : decode cX8_better 127 = .ok (.istore 5, 2) := by decide +kernel
theorem dX8_better_129 : decode cX8_better 129 = .ok (.iinc 7 1, 3) := by decide +kernel
theorem dX8_better_132 : decode cX8_better 132 = .ok (.goto (-91), 3) := by decide +kernel
theorem dX8_better_135 : decode cX8_better 135 = .ok (.iinc 6 1, 3) := by decide +kernel
theorem dX8_better_138 : decode cX8_better 138 = .ok (.goto (-112), 3) := by decide +kernel
theorem dX8_better_141 : decode cX8_better 141 = .ok (.aload_n 0, 1) := by decide +kernel
theorem dX8_better_142 : decode cX8_better 142 = .ok (.getfield 59, 3) := by decide +kernel
theorem dX8_better_145 : decode cX8_better 145 = .ok (.iload_n 2, 1) := by decide +kernel
theorem dX8_better_146 : decode cX8_better 146 = .ok (.iload_n 3, 1) := by decide +kernel
theorem dX8_better_147 : decode cX8_better 147 = .ok (.iload 4, 2) := by decide +kernel
theorem dX8_better_149 : decode cX8_better 149 = .ok (.iload 5, 2) := by decide +kernel
theorem dX8_better_151 : decode cX8_better 151 = .ok (.invokevirtual 257, 3) := by decide +kernel
theorem dX8_better_154 : decode cX8_better 154 = .ok (.aload_n 0, 1) := by decide +kernel
theorem dX8_better_155 : decode cX8_better 155 = .ok (.getfield 59, 3) := by decide +kernel
theorem dX8_better_158 : decode cX8_better 158 = .ok (.iload_n 1, 1) := by decide +kernel
theorem dX8_better_159 : decode cX8_better 159 = .ok (.invokevirtual 234, 3) := by decide +kernel
theorem dX8_better_162 : decode cX8_better 162 = .ok (.lreturn, 1) := by decide +kernel
theorem dX8_lean_0 : decode cX8_lean 0 = .ok (.aload_n 0, 1) := by decide +kernel
theorem dX8_lean_1 : decode cX8_lean 1 = .ok (.getfield 33, 3) := by decide +kernel
theorem dX8_lean_4 : decode cX8_lean 4 = .ok (.iload_n 1, 1) := by decide +kernel
theorem dX8_lean_5 : decode cX8_lean 5 = .ok (.invokevirtual 176, 3) := by decide +kernel
theorem dX8_lean_8 : decode cX8_lean 8 = .ok (.ifCond .ne 5, 3) := by decide +kernel
theorem dX8_lean_11 : decode cX8_lean 11 = .ok (.iconst (-1), 1) := by decide +kernel
theorem dX8_lean_12 : decode cX8_lean 12 = .ok (.ireturn, 1) := by decide +kernel
theorem dX8_lean_13 : decode cX8_lean 13 = .ok (.aload_n 0, 1) := by decide +kernel
theorem dX8_lean_14 : decode cX8_lean 14 = .ok (.getfield 33, 3) := by decide +kernel
theorem dX8_lean_17 : decode cX8_lean 17 = .ok (.getfield 177, 3) := by decide +kernel
theorem dX8_lean_20 : decode cX8_lean 20 = .ok (.iload_n 1, 1) := by decide +kernel
theorem dX8_lean_21 : decode cX8_lean 21 = .ok (.baload, 1) := by decide +kernel
theorem dX8_lean_22 : decode cX8_lean 22 = .ok (.istore_n 2, 1) := by decide +kernel
theorem dX8_lean_23 : decode cX8_lean 23 = .ok (.aload_n 0, 1) := by decide +kernel
theorem dX8_lean_24 : decode cX8_lean 24 = .ok (.getfield 33, 3) := by decide +kernel
theorem dX8_lean_27 : decode cX8_lean 27 = .ok (.getfield 177, 3) := by decide +kernel
theorem dX8_lean_30 : decode cX8_lean 30 = .ok (.iload_n 1, 1) := by decide +kernel
theorem dX8_lean_31 : decode cX8_lean 31 = .ok (.iconst 1, 1) := by decide +kernel
theorem dX8_lean_32 : decode cX8_lean 32 = .ok (.bastore, 1) := by decide +kernel
theorem dX8_lean_33 : decode cX8_lean 33 = .ok (.aload_n 0, 1) := by decide +kernel
theorem dX8_lean_34 : decode cX8_lean 34 = .ok (.getfield 53, 3) := by decide +kernel
theorem dX8_lean_37 : decode cX8_lean 37 = .ok (.invokevirtual 191, 3) := by decide +kernel
theorem dX8_lean_40 : decode cX8_lean 40 = .ok (.pop, 1) := by decide +kernel
theorem dX8_lean_41 : decode cX8_lean 41 = .ok (.aload_n 0, 1) := by decide +kernel
theorem dX8_lean_42 : decode cX8_lean 42 = .ok (.getfield 53, 3) := by decide +kernel
theorem dX8_lean_45 : decode cX8_lean 45 = .ok (.invokevirtual 261, 3) := by decide +kernel
theorem dX8_lean_48 : decode cX8_lean 48 = .ok (.aload_n 0, 1) := by decide +kernel
theorem dX8_lean_49 : decode cX8_lean 49 = .ok (.getfield 33, 3) := by decide +kernel
theorem dX8_lean_52 : decode cX8_lean 52 = .ok (.getfield 177, 3) := by decide +kernel
theorem dX8_lean_55 : decode cX8_lean 55 = .ok (.iload_n 1, 1) := by decide +kernel
theorem dX8_lean_56 : decode cX8_lean 56 = .ok (.iconst 0, 1) := by decide +kernel
theorem dX8_lean_57 : decode cX8_lean 57 = .ok (.bastore, 1) := by decide +kernel
theorem dX8_lean_58 : decode cX8_lean 58 = .ok (.aload_n 0, 1) := by decide +kernel
theorem dX8_lean_59 : decode cX8_lean 59 = .ok (.getfield 53, 3) := by decide +kernel
theorem dX8_lean_62 : decode cX8_lean 62 = .ok (.invokevirtual 191, 3) := by decide +kernel
theorem dX8_lean_65 : decode cX8_lean 65 = .ok (.pop, 1) := by decide +kernel
theorem dX8_lean_66 : decode cX8_lean 66 = .ok (.aload_n 0, 1) := by decide +kernel
theorem dX8_lean_67 : decode cX8_lean 67 = .ok (.getfield 33, 3) := by decide +kernel
theorem dX8_lean_70 : decode cX8_lean 70 = .ok (.getfield 177, 3) := by decide +kernel
theorem dX8_lean_73 : decode cX8_lean 73 = .ok (.iload_n 1, 1) := by decide +kernel
theorem dX8_lean_74 : decode cX8_lean 74 = .ok (.iload_n 2, 1) := by decide +kernel
theorem dX8_lean_75 : decode cX8_lean 75 = .ok (.bastore, 1) := by decide +kernel
theorem dX8_lean_76 : decode cX8_lean 76 = .ok (.aload_n 0, 1) := by decide +kernel
theorem dX8_lean_77 : decode cX8_lean 77 = .ok (.getfield 53, 3) := by decide +kernel
theorem dX8_lean_80 : decode cX8_lean 80 = .ok (.invokevirtual 264, 3) := by decide +kernel
theorem dX8_lean_83 : decode cX8_lean 83 = .ok (.ireturn, 1) := by decide +kernel
theorem dX8_coins_0 : decode cX8_coins 0 = .ok (.aload_n 0, 1) := by decide +kernel
theorem dX8_coins_1 : decode cX8_coins 1 = .ok (.getfield 33, 3) := by decide +kernel
theorem dX8_coins_4 : decode cX8_coins 4 = .ok (.iload_n 1, 1) := by decide +kernel
theorem dX8_coins_5 : decode cX8_coins 5 = .ok (.invokevirtual 176, 3) := by decide +kernel
theorem dX8_coins_8 : decode cX8_coins 8 = .ok (.ifCond .ne 5, 3) := by decide +kernel
theorem dX8_coins_11 : decode cX8_coins 11 = .ok (.iconst (-1), 1) := by decide +kernel
theorem dX8_coins_12 : decode cX8_coins 12 = .ok (.ireturn, 1) := by decide +kernel
theorem dX8_coins_13 : decode cX8_coins 13 = .ok (.aload_n 0, 1) := by decide +kernel
theorem dX8_coins_14 : decode cX8_coins 14 = .ok (.iload_n 1, 1) := by decide +kernel
theorem dX8_coins_15 : decode cX8_coins 15 = .ok (.invokevirtual 212, 3) := by decide +kernel
theorem dX8_coins_18 : decode cX8_coins 18 = .ok (.istore_n 2, 1) := by decide +kernel
theorem dX8_coins_19 : decode cX8_coins 19 = .ok (.aload_n 0, 1) := by decide +kernel
theorem dX8_coins_20 : decode cX8_coins 20 = .ok (.getfield 40, 3) := by decide +kernel
theorem dX8_coins_23 : decode cX8_coins 23 = .ok (.getfield 188, 3) := by decide +kernel
theorem dX8_coins_26 : decode cX8_coins 26 = .ok (.iconst 3, 1) := by decide +kernel
theorem dX8_coins_27 : decode cX8_coins 27 = .ok (.iaload, 1) := by decide +kernel
theorem dX8_coins_28 : decode cX8_coins 28 = .ok (.aload_n 0, 1) := by decide +kernel
theorem dX8_coins_29 : decode cX8_coins 29 = .ok (.iload_n 1, 1) := by decide +kernel
theorem dX8_coins_30 : decode cX8_coins 30 = .ok (.invokevirtual 206, 3) := by decide +kernel
theorem dX8_coins_33 : decode cX8_coins 33 = .ok (.imul, 1) := by decide +kernel
theorem dX8_coins_34 : decode cX8_coins 34 = .ok (.aload_n 0, 1) := by decide +kernel
theorem dX8_coins_35 : decode cX8_coins 35 = .ok (.getfield 40, 3) := by decide +kernel
theorem dX8_coins_38 : decode cX8_coins 38 = .ok (.getfield 188, 3) := by decide +kernel
theorem dX8_coins_41 : decode cX8_coins 41 = .ok (.iconst 4, 1) := by decide +kernel
theorem dX8_coins_42 : decode cX8_coins 42 = .ok (.iaload, 1) := by decide +kernel
theorem dX8_coins_43 : decode cX8_coins 43 = .ok (.iload_n 2, 1) := by decide +kernel
theorem dX8_coins_44 : decode cX8_coins 44 = .ok (.imul, 1) := by decide +kernel
theorem dX8_coins_45 : decode cX8_coins 45 = .ok (.iadd, 1) := by decide +kernel
theorem dX8_coins_46 : decode cX8_coins 46 = .ok (.aload_n 0, 1) := by decide +kernel
theorem dX8_coins_47 : decode cX8_coins 47 = .ok (.getfield 40, 3) := by decide +kernel
theorem dX8_coins_50 : decode cX8_coins 50 = .ok (.getfield 188, 3) := by decide +kernel
theorem dX8_coins_53 : decode cX8_coins 53 = .ok (.iconst 5, 1) := by decide +kernel
theorem dX8_coins_54 : decode cX8_coins 54 = .ok (.iaload, 1) := by decide +kernel
theorem dX8_coins_55 : decode cX8_coins 55 = .ok (.aload_n 0, 1) := by decide +kernel
theorem dX8_coins_56 : decode cX8_coins 56 = .ok (.iload_n 1, 1) := by decide +kernel
theorem dX8_coins_57 : decode cX8_coins 57 = .ok (.invokevirtual 209, 3) := by decide +kernel
theorem dX8_coins_60 : decode cX8_coins 60 = .ok (.iload_n 2, 1) := by decide +kernel
theorem dX8_coins_61 : decode cX8_coins 61 = .ok (.isub, 1) := by decide +kernel
theorem dX8_coins_62 : decode cX8_coins 62 = .ok (.imul, 1) := by decide +kernel
theorem dX8_coins_63 : decode cX8_coins 63 = .ok (.isub, 1) := by decide +kernel
theorem dX8_coins_64 : decode cX8_coins 64 = .ok (.istore_n 3, 1) := by decide +kernel
theorem dX8_coins_65 : decode cX8_coins 65 = .ok (.iload_n 3, 1) := by decide +kernel
theorem dX8_coins_66 : decode cX8_coins 66 = .ok (.ifCond .ge 7, 3) := by decide +kernel
theorem dX8_coins_69 : decode cX8_coins 69 = .ok (.iconst 0, 1) := by decide +kernel
theorem dX8_coins_70 : decode cX8_coins 70 = .ok (.goto 4, 3) := by decide +kernel
theorem dX8_coins_73 : decode cX8_coins 73 = .ok (.iload_n 3, 1) := by decide +kernel
theorem dX8_coins_74 : decode cX8_coins 74 = .ok (.ireturn, 1) := by decide +kernel
theorem dX8_pays_0 : decode cX8_pays 0 = .ok (.iload_n 1, 1) := by decide +kernel
theorem dX8_pays_1 : decode cX8_pays 1 = .ok (.ifCond .lt 23, 3) := by decide +kernel
theorem dX8_pays_4 : decode cX8_pays 4 = .ok (.iload_n 1, 1) := by decide +kernel
theorem dX8_pays_5 : decode cX8_pays 5 = .ok (.bipush 20, 2) := by decide +kernel
theorem dX8_pays_7 : decode cX8_pays 7 = .ok (.if_icmp .gt 17, 3) := by decide +kernel
theorem dX8_pays_10 : decode cX8_pays 10 = .ok (.iload_n 2, 1) := by decide +kernel
theorem dX8_pays_11 : decode cX8_pays 11 = .ok (.invokestatic 267, 3) := by decide +kernel
theorem dX8_pays_14 : decode cX8_pays 14 = .ok (.ifCond .eq 10, 3) := by decide +kernel
theorem dX8_pays_17 : decode cX8_pays 17 = .ok (.iload_n 3, 1) := by decide +kernel
theorem dX8_pays_18 : decode cX8_pays 18 = .ok (.invokestatic 267, 3) := by decide +kernel
theorem dX8_pays_21 : decode cX8_pays 21 = .ok (.ifCond .ne 6, 3) := by decide +kernel
theorem dX8_pays_24 : decode cX8_pays 24 = .ok (.bipush (-2), 2) := by decide +kernel
theorem dX8_pays_26 : decode cX8_pays 26 = .ok (.ireturn, 1) := by decide +kernel
theorem dX8_pays_27 : decode cX8_pays 27 = .ok (.aload_n 0, 1) := by decide +kernel
theorem dX8_pays_28 : decode cX8_pays 28 = .ok (.getfield 66, 3) := by decide +kernel
theorem dX8_pays_31 : decode cX8_pays 31 = .ok (.getfield 269, 3) := by decide +kernel
theorem dX8_pays_34 : decode cX8_pays 34 = .ok (.iload_n 1, 1) := by decide +kernel
theorem dX8_pays_35 : decode cX8_pays 35 = .ok (.iload_n 2, 1) := by decide +kernel
theorem dX8_pays_36 : decode cX8_pays 36 = .ok (.iastore, 1) := by decide +kernel
theorem dX8_pays_37 : decode cX8_pays 37 = .ok (.aload_n 0, 1) := by decide +kernel
theorem dX8_pays_38 : decode cX8_pays 38 = .ok (.getfield 66, 3) := by decide +kernel
theorem dX8_pays_41 : decode cX8_pays 41 = .ok (.getfield 272, 3) := by decide +kernel
theorem dX8_pays_44 : decode cX8_pays 44 = .ok (.iload_n 1, 1) := by decide +kernel
theorem dX8_pays_45 : decode cX8_pays 45 = .ok (.iload_n 3, 1) := by decide +kernel
theorem dX8_pays_46 : decode cX8_pays 46 = .ok (.iastore, 1) := by decide +kernel
theorem dX8_pays_47 : decode cX8_pays 47 = .ok (.iconst 1, 1) := by decide +kernel
theorem dX8_pays_48 : decode cX8_pays 48 = .ok (.ireturn, 1) := by decide +kernel
theorem dX8_belief_0 : decode cX8_belief 0 = .ok (.iload_n 1, 1) := by decide +kernel
theorem dX8_belief_1 : decode cX8_belief 1 = .ok (.ifCond .lt 8, 3) := by decide +kernel
theorem dX8_belief_4 : decode cX8_belief 4 = .ok (.iload_n 1, 1) := by decide +kernel
theorem dX8_belief_5 : decode cX8_belief 5 = .ok (.iconst 2, 1) := by decide +kernel
theorem dX8_belief_6 : decode cX8_belief 6 = .ok (.if_icmp .le 6, 3) := by decide +kernel
theorem dX8_belief_9 : decode cX8_belief 9 = .ok (.bipush (-2), 2) := by decide +kernel
theorem dX8_belief_11 : decode cX8_belief 11 = .ok (.ireturn, 1) := by decide +kernel
theorem dX8_belief_12 : decode cX8_belief 12 = .ok (.aload_n 0, 1) := by decide +kernel
theorem dX8_belief_13 : decode cX8_belief 13 = .ok (.getfield 66, 3) := by decide +kernel
theorem dX8_belief_16 : decode cX8_belief 16 = .ok (.invokevirtual 275, 3) := by decide +kernel
theorem dX8_belief_19 : decode cX8_belief 19 = .ok (.istore_n 2, 1) := by decide +kernel
theorem dX8_belief_20 : decode cX8_belief 20 = .ok (.iload_n 2, 1) := by decide +kernel
theorem dX8_belief_21 : decode cX8_belief 21 = .ok (.bipush (-6), 2) := by decide +kernel
theorem dX8_belief_23 : decode cX8_belief 23 = .ok (.if_icmp .eq 7, 3) := by decide +kernel
theorem dX8_belief_26 : decode cX8_belief 26 = .ok (.iload_n 1, 1) := by decide +kernel
theorem dX8_belief_27 : decode cX8_belief 27 = .ok (.ifCond .ne 5, 3) := by decide +kernel
theorem dX8_belief_30 : decode cX8_belief 30 = .ok (.iload_n 2, 1) := by decide +kernel
theorem dX8_belief_31 : decode cX8_belief 31 = .ok (.ireturn, 1) := by decide +kernel
theorem dX8_belief_32 : decode cX8_belief 32 = .ok (.aload_n 0, 1) := by decide +kernel
theorem dX8_belief_33 : decode cX8_belief 33 = .ok (.getfield 66, 3) := by decide +kernel
theorem dX8_belief_36 : decode cX8_belief 36 = .ok (.iload_n 2, 1) := by decide +kernel
theorem dX8_belief_37 : decode cX8_belief 37 = .ok (.invokevirtual 278, 3) := by decide +kernel
theorem dX8_belief_40 : decode cX8_belief 40 = .ok (.istore_n 3, 1) := by decide +kernel
theorem dX8_belief_41 : decode cX8_belief 41 = .ok (.iload_n 1, 1) := by decide +kernel
theorem dX8_belief_42 : decode cX8_belief 42 = .ok (.iconst 1, 1) := by decide +kernel
theorem dX8_belief_43 : decode cX8_belief 43 = .ok (.if_icmp .ne 7, 3) := by decide +kernel
theorem dX8_belief_46 : decode cX8_belief 46 = .ok (.iload_n 3, 1) := by decide +kernel
theorem dX8_belief_47 : decode cX8_belief 47 = .ok (.goto 22, 3) := by decide +kernel
theorem dX8_belief_50 : decode cX8_belief 50 = .ok (.aload_n 0, 1) := by decide +kernel
theorem dX8_belief_51 : decode cX8_belief 51 = .ok (.getfield 66, 3) := by decide +kernel
theorem dX8_belief_54 : decode cX8_belief 54 = .ok (.iload_n 2, 1) := by decide +kernel
theorem dX8_belief_55 : decode cX8_belief 55 = .ok (.iload_n 3, 1) := by decide +kernel
theorem dX8_belief_56 : decode cX8_belief 56 = .ok (.invokevirtual 281, 3) := by decide +kernel
theorem dX8_belief_59 : decode cX8_belief 59 = .ok (.aload_n 0, 1) := by decide +kernel
theorem dX8_belief_60 : decode cX8_belief 60 = .ok (.getfield 66, 3) := by decide +kernel
theorem dX8_belief_63 : decode cX8_belief 63 = .ok (.iload_n 2, 1) := by decide +kernel
theorem dX8_belief_64 : decode cX8_belief 64 = .ok (.iload_n 2, 1) := by decide +kernel
theorem dX8_belief_65 : decode cX8_belief 65 = .ok (.invokevirtual 281, 3) := by decide +kernel
theorem dX8_belief_68 : decode cX8_belief 68 = .ok (.isub, 1) := by decide +kernel
theorem dX8_belief_69 : decode cX8_belief 69 = .ok (.ireturn, 1) := by decide +kernel
theorem dX8_plan_0 : decode cX8_plan 0 = .ok (.iload_n 1, 1) := by decide +kernel
theorem dX8_plan_1 : decode cX8_plan 1 = .ok (.ifCond .lt 19, 3) := by decide +kernel
theorem dX8_plan_4 : decode cX8_plan 4 = .ok (.iload_n 1, 1) := by decide +kernel
theorem dX8_plan_5 : decode cX8_plan 5 = .ok (.bipush 100, 2) := by decide +kernel
theorem dX8_plan_7 : decode cX8_plan 7 = .ok (.if_icmp .gt 13, 3) := by decide +kernel
theorem dX8_plan_10 : decode cX8_plan 10 = .ok (.iload_n 2, 1) := by decide +kernel
theorem dX8_plan_11 : decode cX8_plan 11 = .ok (.ifCond .lt 9, 3) := by decide +kernel
theorem dX8_plan_14 : decode cX8_plan 14 = .ok (.iload_n 2, 1) := by decide +kernel
theorem dX8_plan_15 : decode cX8_plan 15 = .ok (.bipush 100, 2) := by decide +kernel
theorem dX8_plan_17 : decode cX8_plan 17 = .ok (.if_icmp .le 6, 3) := by decide +kernel
theorem dX8_plan_20 : decode cX8_plan 20 = .ok (.bipush (-2), 2) := by decide +kernel
theorem dX8_plan_22 : decode cX8_plan 22 = .ok (.ireturn, 1) := by decide +kernel
theorem dX8_plan_23 : decode cX8_plan 23 = .ok (.iconst 1, 1) := by decide +kernel
theorem dX8_plan_24 : decode cX8_plan 24 = .ok (.istore_n 3, 1) := by decide +kernel
theorem dX8_plan_25 : decode cX8_plan 25 = .ok (.iload_n 3, 1) := by decide +kernel
theorem dX8_plan_26 : decode cX8_plan 26 = .ok (.bipush 9, 2) := by decide +kernel
theorem dX8_plan_28 : decode cX8_plan 28 = .ok (.if_icmp .gt 31, 3) := by decide +kernel
theorem dX8_plan_31 : decode cX8_plan 31 = .ok (.iload_n 1, 1) := by decide +kernel
theorem dX8_plan_32 : decode cX8_plan 32 = .ok (.iload_n 3, 1) := by decide +kernel
theorem dX8_plan_33 : decode cX8_plan 33 = .ok (.invokestatic 284, 3) := by decide +kernel
theorem dX8_plan_36 : decode cX8_plan 36 = .ok (.iload_n 2, 1) := by decide +kernel
theorem dX8_plan_37 : decode cX8_plan 37 = .ok (.i2l, 1) := by decide +kernel
theorem dX8_plan_38 : decode cX8_plan 38 = .ok (.bipush 100, 2) := by decide +kernel
theorem dX8_plan_40 : decode cX8_plan 40 = .ok (.iload_n 3, 1) := by decide +kernel
theorem dX8_plan_41 : decode cX8_plan 41 = .ok (.iconst 1, 1) := by decide +kernel
theorem dX8_plan_42 : decode cX8_plan 42 = .ok (.isub, 1) := by decide +kernel
theorem dX8_plan_43 : decode cX8_plan 43 = .ok (.invokestatic 288, 3) := by decide +kernel
theorem dX8_plan_46 : decode cX8_plan 46 = .ok (.lmul, 1) := by decide +kernel
theorem dX8_plan_47 : decode cX8_plan 47 = .ok (.lcmp, 1) := by decide +kernel
theorem dX8_plan_48 : decode cX8_plan 48 = .ok (.ifCond .lt 5, 3) := by decide +kernel
theorem dX8_plan_51 : decode cX8_plan 51 = .ok (.iload_n 3, 1) := by decide +kernel
theorem dX8_plan_52 : decode cX8_plan 52 = .ok (.ireturn, 1) := by decide +kernel
theorem dX8_plan_53 : decode cX8_plan 53 = .ok (.iinc 3 2, 3) := by decide +kernel
theorem dX8_plan_56 : decode cX8_plan 56 = .ok (.goto (-31), 3) := by decide +kernel
theorem dX8_plan_59 : decode cX8_plan 59 = .ok (.bipush (-6), 2) := by decide +kernel
theorem dX8_plan_61 : decode cX8_plan 61 = .ok (.ireturn, 1) := by decide +kernel
theorem dX8_told_0 : decode cX8_told 0 = .ok (.iload_n 1, 1) := by decide +kernel
theorem dX8_told_1 : decode cX8_told 1 = .ok (.tableswitch 81 0 5 #[39, 47, 55, 63, 71, 76], 39) := by decide +kernel
theorem dX8_told_40 : decode cX8_told 40 = .ok (.aload_n 0, 1) := by decide +kernel
theorem dX8_told_41 : decode cX8_told 41 = .ok (.getfield 10, 3) := by decide +kernel
theorem dX8_told_44 : decode cX8_told 44 = .ok (.getfield 87, 3) := by decide +kernel
theorem dX8_told_47 : decode cX8_told 47 = .ok (.ireturn, 1) := by decide +kernel
theorem dX8_told_48 : decode cX8_told 48 = .ok (.aload_n 0, 1) := by decide +kernel
theorem dX8_told_49 : decode cX8_told 49 = .ok (.getfield 19, 3) := by decide +kernel
theorem dX8_told_52 : decode cX8_told 52 = .ok (.getfield 103, 3) := by decide +kernel
theorem dX8_told_55 : decode cX8_told 55 = .ok (.ireturn, 1) := by decide +kernel
theorem dX8_told_56 : decode cX8_told 56 = .ok (.aload_n 0, 1) := by decide +kernel
theorem dX8_told_57 : decode cX8_told 57 = .ok (.getfield 26, 3) := by decide +kernel
theorem dX8_told_60 : decode cX8_told 60 = .ok (.getfield 101, 3) := by decide +kernel
theorem dX8_told_63 : decode cX8_told 63 = .ok (.ireturn, 1) := by decide +kernel
theorem dX8_told_64 : decode cX8_told 64 = .ok (.aload_n 0, 1) := by decide +kernel
theorem dX8_told_65 : decode cX8_told 65 = .ok (.getfield 33, 3) := by decide +kernel
theorem dX8_told_68 : decode cX8_told 68 = .ok (.getfield 102, 3) := by decide +kernel
theorem dX8_told_71 : decode cX8_told 71 = .ok (.ireturn, 1) := by decide +kernel
theorem dX8_told_72 : decode cX8_told 72 = .ok (.aload_n 0, 1) := by decide +kernel
theorem dX8_told_73 : decode cX8_told 73 = .ok (.invokevirtual 291, 3) := by decide +kernel
theorem dX8_told_76 : decode cX8_told 76 = .ok (.ireturn, 1) := by decide +kernel
theorem dX8_told_77 : decode cX8_told 77 = .ok (.aload_n 0, 1) := by decide +kernel
theorem dX8_told_78 : decode cX8_told 78 = .ok (.invokevirtual 294, 3) := by decide +kernel
