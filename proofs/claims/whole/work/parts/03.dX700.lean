theorem dX7_init_0 : decode cX7_init 0 = .ok (.aload_n 0, 1) := by decide +kernel
theorem dX7_init_1 : decode cX7_init 1 = .ok (.invokespecial 3, 3) := by decide +kernel
theorem dX7_init_4 : decode cX7_init 4 = .ok (.aload_n 0, 1) := by decide +kernel
theorem dX7_init_5 : decode cX7_init 5 = .ok (.new 9, 3) := by decide +kernel
theorem dX7_init_8 : decode cX7_init 8 = .ok (.dup, 1) := by decide +kernel
theorem dX7_init_9 : decode cX7_init 9 = .ok (.invokespecial 11, 3) := by decide +kernel
theorem dX7_init_12 : decode cX7_init 12 = .ok (.putfield 12, 3) := by decide +kernel
theorem dX7_init_15 : decode cX7_init 15 = .ok (.aload_n 0, 1) := by decide +kernel
theorem dX7_init_16 : decode cX7_init 16 = .ok (.bipush 60, 2) := by decide +kernel
theorem dX7_init_18 : decode cX7_init 18 = .ok (.newarray .int, 2) := by decide +kernel
theorem dX7_init_20 : decode cX7_init 20 = .ok (.putfield 18, 3) := by decide +kernel
theorem dX7_init_23 : decode cX7_init 23 = .ok (.return_, 1) := by decide +kernel
theorem dX7_add_0 : decode cX7_add 0 = .ok (.aload_n 0, 1) := by decide +kernel
theorem dX7_add_1 : decode cX7_add 1 = .ok (.getfield 22, 3) := by decide +kernel
theorem dX7_add_4 : decode cX7_add 4 = .ok (.bipush 60, 2) := by decide +kernel
theorem dX7_add_6 : decode cX7_add 6 = .ok (.if_icmp .lt 5, 3) := by decide +kernel
theorem dX7_add_9 : decode cX7_add 9 = .ok (.iconst 0, 1) := by decide +kernel
theorem dX7_add_10 : decode cX7_add 10 = .ok (.ireturn, 1) := by decide +kernel
theorem dX7_add_11 : decode cX7_add 11 = .ok (.aload_n 0, 1) := by decide +kernel
theorem dX7_add_12 : decode cX7_add 12 = .ok (.getfield 18, 3) := by decide +kernel
theorem dX7_add_15 : decode cX7_add 15 = .ok (.aload_n 0, 1) := by decide +kernel
theorem dX7_add_16 : decode cX7_add 16 = .ok (.getfield 22, 3) := by decide +kernel
theorem dX7_add_19 : decode cX7_add 19 = .ok (.iload_n 1, 1) := by decide +kernel
theorem dX7_add_20 : decode cX7_add 20 = .ok (.iastore, 1) := by decide +kernel
theorem dX7_add_21 : decode cX7_add 21 = .ok (.aload_n 0, 1) := by decide +kernel
theorem dX7_add_22 : decode cX7_add 22 = .ok (.dup, 1) := by decide +kernel
theorem dX7_add_23 : decode cX7_add 23 = .ok (.getfield 22, 3) := by decide +kernel
theorem dX7_add_26 : decode cX7_add 26 = .ok (.iconst 1, 1) := by decide +kernel
theorem dX7_add_27 : decode cX7_add 27 = .ok (.iadd, 1) := by decide +kernel
theorem dX7_add_28 : decode cX7_add 28 = .ok (.putfield 22, 3) := by decide +kernel
theorem dX7_add_31 : decode cX7_add 31 = .ok (.iconst 1, 1) := by decide +kernel
theorem dX7_add_32 : decode cX7_add 32 = .ok (.ireturn, 1) := by decide +kernel
theorem dX7_read_0 : decode cX7_read 0 = .ok (.aload_n 0, 1) := by decide +kernel
theorem dX7_read_1 : decode cX7_read 1 = .ok (.getfield 12, 3) := by decide +kernel
theorem dX7_read_4 : decode cX7_read 4 = .ok (.iconst 0, 1) := by decide +kernel
theorem dX7_read_5 : decode cX7_read 5 = .ok (.putfield 26, 3) := by decide +kernel
theorem dX7_read_8 : decode cX7_read 8 = .ok (.aload_n 0, 1) := by decide +kernel
theorem dX7_read_9 : decode cX7_read 9 = .ok (.iconst 0, 1) := by decide +kernel
theorem dX7_read_10 : decode cX7_read 10 = .ok (.putfield 27, 3) := by decide +kernel
theorem dX7_read_13 : decode cX7_read 13 = .ok (.iconst 0, 1) := by decide +kernel
theorem dX7_read_14 : decode cX7_read 14 = .ok (.istore_n 1, 1) := by decide +kernel
theorem dX7_read_15 : decode cX7_read 15 = .ok (.iload_n 1, 1) := by decide +kernel
theorem dX7_read_16 : decode cX7_read 16 = .ok (.aload_n 0, 1) := by decide +kernel
theorem dX7_read_17 : decode cX7_read 17 = .ok (.getfield 22, 3) := by decide +kernel
theorem dX7_read_20 : decode cX7_read 20 = .ok (.if_icmp .ge 24, 3) := by decide +kernel
theorem dX7_read_23 : decode cX7_read 23 = .ok (.aload_n 0, 1) := by decide +kernel
theorem dX7_read_24 : decode cX7_read 24 = .ok (.aload_n 0, 1) := by decide +kernel
theorem dX7_read_25 : decode cX7_read 25 = .ok (.getfield 18, 3) := by decide +kernel
theorem dX7_read_28 : decode cX7_read 28 = .ok (.iload_n 1, 1) := by decide +kernel
theorem dX7_read_29 : decode cX7_read 29 = .ok (.iaload, 1) := by decide +kernel
theorem dX7_read_30 : decode cX7_read 30 = .ok (.invokevirtual 30, 3) := by decide +kernel
theorem dX7_read_33 : decode cX7_read 33 = .ok (.ifCond .ne 5, 3) := by decide +kernel
theorem dX7_read_36 : decode cX7_read 36 = .ok (.iload_n 1, 1) := by decide +kernel
theorem dX7_read_37 : decode cX7_read 37 = .ok (.ireturn, 1) := by decide +kernel
theorem dX7_read_38 : decode cX7_read 38 = .ok (.iinc 1 1, 3) := by decide +kernel
theorem dX7_read_41 : decode cX7_read 41 = .ok (.goto (-26), 3) := by decide +kernel
theorem dX7_read_44 : decode cX7_read 44 = .ok (.aload_n 0, 1) := by decide +kernel
theorem dX7_read_45 : decode cX7_read 45 = .ok (.getfield 27, 3) := by decide +kernel
theorem dX7_read_48 : decode cX7_read 48 = .ok (.bipush 8, 2) := by decide +kernel
theorem dX7_read_50 : decode cX7_read 50 = .ok (.if_icmp .ne 8, 3) := by decide +kernel
theorem dX7_read_53 : decode cX7_read 53 = .ok (.bipush (-6), 2) := by decide +kernel
theorem dX7_read_55 : decode cX7_read 55 = .ok (.goto 7, 3) := by decide +kernel
theorem dX7_read_58 : decode cX7_read 58 = .ok (.aload_n 0, 1) := by decide +kernel
theorem dX7_read_59 : decode cX7_read 59 = .ok (.getfield 22, 3) := by decide +kernel
theorem dX7_read_62 : decode cX7_read 62 = .ok (.ireturn, 1) := by decide +kernel
theorem dX7_takes_0 : decode cX7_takes 0 = .ok (.aload_n 0, 1) := by decide +kernel
theorem dX7_takes_1 : decode cX7_takes 1 = .ok (.getfield 27, 3) := by decide +kernel
theorem dX7_takes_4 : decode cX7_takes 4 = .ok (.tableswitch 208 0 7 #[48, 57, 74, 112, 121, 165, 174, 199], 48) := by decide +kernel
theorem dX7_takes_52 : decode cX7_takes 52 = .ok (.aload_n 0, 1) := by decide +kernel
theorem dX7_takes_53 : decode cX7_takes 53 = .ok (.iload_n 1, 1) := by decide +kernel
theorem dX7_takes_54 : decode cX7_takes 54 = .ok (.bipush 97, 2) := by decide +kernel
theorem dX7_takes_56 : decode cX7_takes 56 = .ok (.isub, 1) := by decide +kernel
theorem dX7_takes_57 : decode cX7_takes 57 = .ok (.invokevirtual 34, 3) := by decide +kernel
theorem dX7_takes_60 : decode cX7_takes 60 = .ok (.ireturn, 1) := by decide +kernel
theorem dX7_takes_61 : decode cX7_takes 61 = .ok (.aload_n 0, 1) := by decide +kernel
theorem dX7_takes_62 : decode cX7_takes 62 = .ok (.iload_n 1, 1) := by decide +kernel
theorem dX7_takes_63 : decode cX7_takes 63 = .ok (.bipush 58, 2) := by decide +kernel
theorem dX7_takes_65 : decode cX7_takes 65 = .ok (.if_icmp .ne 7, 3) := by decide +kernel
theorem dX7_takes_68 : decode cX7_takes 68 = .ok (.iconst 1, 1) := by decide +kernel
theorem dX7_takes_69 : decode cX7_takes 69 = .ok (.goto 4, 3) := by decide +kernel
theorem dX7_takes_72 : decode cX7_takes 72 = .ok (.iconst 0, 1) := by decide +kernel
theorem dX7_takes_73 : decode cX7_takes 73 = .ok (.iconst 2, 1) := by decide +kernel
theorem dX7_takes_74 : decode cX7_takes 74 = .ok (.invokevirtual 37, 3) := by decide +kernel
theorem dX7_takes_77 : decode cX7_takes 77 = .ok (.ireturn, 1) := by decide +kernel
theorem dX7_takes_78 : decode cX7_takes 78 = .ok (.iload_n 1, 1) := by decide +kernel
theorem dX7_takes_79 : decode cX7_takes 79 = .ok (.bipush 67, 2) := by decide +kernel
theorem dX7_takes_81 : decode cX7_takes 81 = .ok (.if_icmp .ne 12, 3) := by decide +kernel
theorem dX7_takes_84 : decode cX7_takes 84 = .ok (.aload_n 0, 1) := by decide +kernel
theorem dX7_takes_85 : decode cX7_takes 85 = .ok (.iconst 1, 1) := by decide +kernel
theorem dX7_takes_86 : decode cX7_takes 86 = .ok (.iconst 3, 1) := by decide +kernel
theorem dX7_takes_87 : decode cX7_takes 87 = .ok (.invokevirtual 37, 3) := by decide +kernel
theorem dX7_takes_90 : decode cX7_takes 90 = .ok (.goto 25, 3) := by decide +kernel
theorem dX7_takes_93 : decode cX7_takes 93 = .ok (.aload_n 0, 1) := by decide +kernel
theorem dX7_takes_94 : decode cX7_takes 94 = .ok (.iload_n 1, 1) := by decide +kernel
theorem dX7_takes_95 : decode cX7_takes 95 = .ok (.bipush 75, 2) := by decide +kernel
theorem dX7_takes_97 : decode cX7_takes 97 = .ok (.if_icmp .eq 9, 3) := by decide +kernel
theorem dX7_takes_100 : decode cX7_takes 100 = .ok (.iload_n 1, 1) := by decide +kernel
theorem dX7_takes_101 : decode cX7_takes 101 = .ok (.bipush 79, 2) := by decide +kernel
theorem dX7_takes_103 : decode cX7_takes 103 = .ok (.if_icmp .ne 7, 3) := by decide +kernel
theorem dX7_takes_106 : decode cX7_takes 106 = .ok (.iconst 1, 1) := by decide +kernel
theorem dX7_takes_107 : decode cX7_takes 107 = .ok (.goto 4, 3) := by decide +kernel
theorem dX7_takes_110 : decode cX7_takes 110 = .ok (.iconst 0, 1) := by decide +kernel
theorem dX7_takes_111 : decode cX7_takes 111 = .ok (.iconst 4, 1) := by decide +kernel
theorem dX7_takes_112 : decode cX7_takes 112 = .ok (.invokevirtual 37, 3) := by decide +kernel
theorem dX7_takes_115 : decode cX7_takes 115 = .ok (.ireturn, 1) := by decide +kernel
theorem dX7_takes_116 : decode cX7_takes 116 = .ok (.aload_n 0, 1) := by decide +kernel
theorem dX7_takes_117 : decode cX7_takes 117 = .ok (.iload_n 1, 1) := by decide +kernel
theorem dX7_takes_118 : decode cX7_takes 118 = .ok (.bipush 48, 2) := by decide +kernel
theorem dX7_takes_120 : decode cX7_takes 120 = .ok (.isub, 1) := by decide +kernel
theorem dX7_takes_121 : decode cX7_takes 121 = .ok (.invokevirtual 41, 3) := by decide +kernel
theorem dX7_takes_124 : decode cX7_takes 124 = .ok (.ireturn, 1) := by decide +kernel
theorem dX7_takes_125 : decode cX7_takes 125 = .ok (.iload_n 1, 1) := by decide +kernel
theorem dX7_takes_126 : decode cX7_takes 126 = .ok (.bipush 60, 2) := by decide +kernel
theorem dX7_takes_128 : decode cX7_takes 128 = .ok (.if_icmp .ne 23, 3) := by decide +kernel
theorem dX7_takes_131 : decode cX7_takes 131 = .ok (.aload_n 0, 1) := by decide +kernel
theorem dX7_takes_132 : decode cX7_takes 132 = .ok (.aload_n 0, 1) := by decide +kernel
theorem dX7_takes_133 : decode cX7_takes 133 = .ok (.getfield 44, 3) := by decide +kernel
theorem dX7_takes_136 : decode cX7_takes 136 = .ok (.ifCond .le 7, 3) := by decide +kernel
theorem dX7_takes_139 : decode cX7_takes 139 = .ok (.iconst 1, 1) := by decide +kernel
theorem dX7_takes_140 : decode cX7_takes 140 = .ok (.goto 4, 3) := by decide +kernel
theorem dX7_takes_143 : decode cX7_takes 143 = .ok (.iconst 0, 1) := by decide +kernel
theorem dX7_takes_144 : decode cX7_takes 144 = .ok (.iconst 5, 1) := by decide +kernel
theorem dX7_takes_145 : decode cX7_takes 145 = .ok (.invokevirtual 37, 3) := by decide +kernel
theorem dX7_takes_148 : decode cX7_takes 148 = .ok (.goto 20, 3) := by decide +kernel
theorem dX7_takes_151 : decode cX7_takes 151 = .ok (.aload_n 0, 1) := by decide +kernel
theorem dX7_takes_152 : decode cX7_takes 152 = .ok (.iload_n 1, 1) := by decide +kernel
theorem dX7_takes_153 : decode cX7_takes 153 = .ok (.bipush 33, 2) := by decide +kernel
theorem dX7_takes_155 : decode cX7_takes 155 = .ok (.if_icmp .ne 7, 3) := by decide +kernel
theorem dX7_takes_158 : decode cX7_takes 158 = .ok (.iconst 1, 1) := by decide +kernel
theorem dX7_takes_159 : decode cX7_takes 159 = .ok (.goto 4, 3) := by decide +kernel
theorem dX7_takes_162 : decode cX7_takes 162 = .ok (.iconst 0, 1) := by decide +kernel
theorem dX7_takes_163 : decode cX7_takes 163 = .ok (.bipush 7, 2) := by decide +kernel
theorem dX7_takes_165 : decode cX7_takes 165 = .ok (.invokevirtual 37, 3) := by decide +kernel
theorem dX7_takes_168 : decode cX7_takes 168 = .ok (.ireturn, 1) := by decide +kernel
theorem dX7_takes_169 : decode cX7_takes 169 = .ok (.aload_n 0, 1) := by decide +kernel
theorem dX7_takes_170 : decode cX7_takes 170 = .ok (.iload_n 1, 1) := by decide +kernel
theorem dX7_takes_171 : decode cX7_takes 171 = .ok (.bipush 97, 2) := by decide +kernel
theorem dX7_takes_173 : decode cX7_takes 173 = .ok (.isub, 1) := by decide +kernel
theorem dX7_takes_174 : decode cX7_takes 174 = .ok (.invokevirtual 47, 3) := by decide +kernel
theorem dX7_takes_177 : decode cX7_takes 177 = .ok (.ireturn, 1) := by decide +kernel
theorem dX7_takes_178 : decode cX7_takes 178 = .ok (.iload_n 1, 1) := by decide +kernel
theorem dX7_takes_179 : decode cX7_takes 179 = .ok (.bipush 33, 2) := by decide +kernel
theorem dX7_takes_181 : decode cX7_takes 181 = .ok (.if_icmp .ne 13, 3) := by decide +kernel
theorem dX7_takes_184 : decode cX7_takes 184 = .ok (.aload_n 0, 1) := by decide +kernel
theorem dX7_takes_185 : decode cX7_takes 185 = .ok (.iconst 1, 1) := by decide +kernel
theorem dX7_takes_186 : decode cX7_takes 186 = .ok (.bipush 7, 2) := by decide +kernel
theorem dX7_takes_188 : decode cX7_takes 188 = .ok (.invokevirtual 37, 3) := by decide +kernel
theorem dX7_takes_191 : decode cX7_takes 191 = .ok (.goto 11, 3) := by decide +kernel
theorem dX7_takes_194 : decode cX7_takes 194 = .ok (.aload_n 0, 1) := by decide +kernel
theorem dX7_takes_195 : decode cX7_takes 195 = .ok (.iload_n 1, 1) := by decide +kernel
theorem dX7_takes_196 : decode cX7_takes 196 = .ok (.bipush 97, 2) := by decide +kernel
theorem dX7_takes_198 : decode cX7_takes 198 = .ok (.isub, 1) := by decide +kernel
theorem dX7_takes_199 : decode cX7_takes 199 = .ok (.invokevirtual 47, 3) := by decide +kernel
theorem dX7_takes_202 : decode cX7_takes 202 = .ok (.ireturn, 1) := by decide +kernel
theorem dX7_takes_203 : decode cX7_takes 203 = .ok (.aload_n 0, 1) := by decide +kernel
theorem dX7_takes_204 : decode cX7_takes 204 = .ok (.iload_n 1, 1) := by decide +kernel
theorem dX7_takes_205 : decode cX7_takes 205 = .ok (.bipush 48, 2) := by decide +kernel
theorem dX7_takes_207 : decode cX7_takes 207 = .ok (.isub, 1) := by decide +kernel
theorem dX7_takes_208 : decode cX7_takes 208 = .ok (.invokevirtual 50, 3) := by decide +kernel
theorem dX7_takes_211 : decode cX7_takes 211 = .ok (.ireturn, 1) := by decide +kernel
theorem dX7_takes_212 : decode cX7_takes 212 = .ok (.iload_n 1, 1) := by decide +kernel
theorem dX7_takes_213 : decode cX7_takes 213 = .ok (.bipush 59, 2) := by decide +kernel
theorem dX7_takes_215 : decode cX7_takes 215 = .ok (.if_icmp .ne 28, 3) := by decide +kernel
theorem dX7_takes_218 : decode cX7_takes 218 = .ok (.aload_n 0, 1) := by decide +kernel
theorem dX7_takes_219 : decode cX7_takes 219 = .ok (.aload_n 0, 1) := by decide +kernel
theorem dX7_takes_220 : decode cX7_takes 220 = .ok (.getfield 12, 3) := by decide +kernel
theorem dX7_takes_223 : decode cX7_takes 223 = .ok (.getfield 26, 3) := by decide +kernel
theorem dX7_takes_226 : decode cX7_takes 226 = .ok (.bipush 8, 2) := by decide +kernel
theorem dX7_takes_228 : decode cX7_takes 228 = .ok (.if_icmp .ge 7, 3) := by decide +kernel
theorem dX7_takes_231 : decode cX7_takes 231 = .ok (.iconst 1, 1) := by decide +kernel
theorem dX7_takes_232 : decode cX7_takes 232 = .ok (.goto 4, 3) := by decide +kernel
theorem dX7_takes_235 : decode cX7_takes 235 = .ok (.iconst 0, 1) := by decide +kernel
theorem dX7_takes_236 : decode cX7_takes 236 = .ok (.iconst 0, 1) := by decide +kernel
theorem dX7_takes_237 : decode cX7_takes 237 = .ok (.invokevirtual 37, 3) := by decide +kernel
theorem dX7_takes_240 : decode cX7_takes 240 = .ok (.goto 11, 3) := by decide +kernel
theorem dX7_takes_243 : decode cX7_takes 243 = .ok (.aload_n 0, 1) := by decide +kernel
theorem dX7_takes_244 : decode cX7_takes 244 = .ok (.iload_n 1, 1) := by decide +kernel
theorem dX7_takes_245 : decode cX7_takes 245 = .ok (.bipush 48, 2) := by decide +kernel
theorem dX7_takes_247 : decode cX7_takes 247 = .ok (.isub, 1) := by decide +kernel
theorem dX7_takes_248 : decode cX7_takes 248 = .ok (.invokevirtual 50, 3) := by decide +kernel
theorem dX7_takes_251 : decode cX7_takes 251 = .ok (.ireturn, 1) := by decide +kernel
theorem dX7_goesOn_0 : decode cX7_goesOn 0 = .ok (.iload_n 1, 1) := by decide +kernel
theorem dX7_goesOn_1 : decode cX7_goesOn 1 = .ok (.ifCond .eq 8, 3) := by decide +kernel
theorem dX7_goesOn_4 : decode cX7_goesOn 4 = .ok (.aload_n 0, 1) := by decide +kernel
theorem dX7_goesOn_5 : decode cX7_goesOn 5 = .ok (.iload_n 2, 1) := by decide +kernel
theorem dX7_goesOn_6 : decode cX7_goesOn 6 = .ok (.putfield 27, 3) := by decide +kernel
theorem dX7_goesOn_9 : decode cX7_goesOn 9 = .ok (.iload_n 1, 1) := by decide +kernel
theorem dX7_goesOn_10 : decode cX7_goesOn 10 = .ok (.ireturn, 1) := by decide +kernel
theorem dX7_takesName_0 : decode cX7_takesName 0 = .ok (.iload_n 1, 1) := by decide +kernel
theorem dX7_takesName_1 : decode cX7_takesName 1 = .ok (.ifCond .lt 41, 3) := by decide +kernel
theorem dX7_takesName_4 : decode cX7_takesName 4 = .ok (.iload_n 1, 1) := by decide +kernel
theorem dX7_takesName_5 : decode cX7_takesName 5 = .ok (.bipush 8, 2) := by decide +kernel
theorem dX7_takesName_7 : decode cX7_takesName 7 = .ok (.if_icmp .ge 35, 3) := by decide +kernel
theorem dX7_takesName_10 : decode cX7_takesName 10 = .ok (.aload_n 0, 1) := by decide +kernel
theorem dX7_takesName_11 : decode cX7_takesName 11 = .ok (.getfield 12, 3) := by decide +kernel
theorem dX7_takesName_14 : decode cX7_takesName 14 = .ok (.getfield 26, 3) := by decide +kernel
theorem dX7_takesName_17 : decode cX7_takesName 17 = .ok (.bipush 8, 2) := by decide +kernel
theorem dX7_takesName_19 : decode cX7_takesName 19 = .ok (.if_icmp .ge 23, 3) := by decide +kernel
theorem dX7_takesName_22 : decode cX7_takesName 22 = .ok (.aload_n 0, 1) := by decide +kernel
theorem dX7_takesName_23 : decode cX7_takesName 23 = .ok (.getfield 12, 3) := by decide +kernel
theorem dX7_takesName_26 : decode cX7_takesName 26 = .ok (.iload_n 1, 1) := by decide +kernel
theorem dX7_takesName_27 : decode cX7_takesName 27 = .ok (.aload_n 0, 1) := by decide +kernel
theorem dX7_takesName_28 : decode cX7_takesName 28 = .ok (.getfield 12, 3) := by decide +kernel
theorem dX7_takesName_31 : decode cX7_takesName 31 = .ok (.getfield 26, 3) := by decide +kernel
theorem dX7_takesName_34 : decode cX7_takesName 34 = .ok (.invokevirtual 53, 3) := by decide +kernel
theorem dX7_takesName_37 : decode cX7_takesName 37 = .ok (.bipush (-6), 2) := by decide +kernel
theorem dX7_takesName_39 : decode cX7_takesName 39 = .ok (.if_icmp .eq 5, 3) := by decide +kernel
theorem dX7_takesName_42 : decode cX7_takesName 42 = .ok (.iconst 0, 1) := by decide +kernel
theorem dX7_takesName_43 : decode cX7_takesName 43 = .ok (.ireturn, 1) := by decide +kernel
theorem dX7_takesName_44 : decode cX7_takesName 44 = .ok (.aload_n 0, 1) := by decide +kernel
theorem dX7_takesName_45 : decode cX7_takesName 45 = .ok (.aload_n 0, 1) := by decide +kernel
theorem dX7_takesName_46 : decode cX7_takesName 46 = .ok (.getfield 12, 3) := by decide +kernel
theorem dX7_takesName_49 : decode cX7_takesName 49 = .ok (.getfield 26, 3) := by decide +kernel
theorem dX7_takesName_52 : decode cX7_takesName 52 = .ok (.putfield 44, 3) := by decide +kernel
theorem dX7_takesName_55 : decode cX7_takesName 55 = .ok (.aload_n 0, 1) := by decide +kernel
theorem dX7_takesName_56 : decode cX7_takesName 56 = .ok (.getfield 12, 3) := by decide +kernel
theorem dX7_takesName_59 : decode cX7_takesName 59 = .ok (.iload_n 1, 1) := by decide +kernel
theorem dX7_takesName_60 : decode cX7_takesName 60 = .ok (.invokevirtual 57, 3) := by decide +kernel
theorem dX7_takesName_63 : decode cX7_takesName 63 = .ok (.aload_n 0, 1) := by decide +kernel
theorem dX7_takesName_64 : decode cX7_takesName 64 = .ok (.iconst (-1), 1) := by decide +kernel
theorem dX7_takesName_65 : decode cX7_takesName 65 = .ok (.putfield 61, 3) := by decide +kernel
theorem dX7_takesName_68 : decode cX7_takesName 68 = .ok (.aload_n 0, 1) := by decide +kernel
theorem dX7_takesName_69 : decode cX7_takesName 69 = .ok (.iconst 0, 1) := by decide +kernel
theorem dX7_takesName_70 : decode cX7_takesName 70 = .ok (.putfield 64, 3) := by decide +kernel
theorem dX7_takesName_73 : decode cX7_takesName 73 = .ok (.aload_n 0, 1) := by decide +kernel
theorem dX7_takesName_74 : decode cX7_takesName 74 = .ok (.iconst 1, 1) := by decide +kernel
theorem dX7_takesName_75 : decode cX7_takesName 75 = .ok (.iconst 1, 1) := by decide +kernel
theorem dX7_takesName_76 : decode cX7_takesName 76 = .ok (.invokevirtual 37, 3) := by decide +kernel
theorem dX7_takesName_79 : decode cX7_takesName 79 = .ok (.ireturn, 1) := by decide +kernel
theorem dX7_takesLabels_0 : decode cX7_takesLabels 0 = .ok (.iload_n 1, 1) := by decide +kernel
theorem dX7_takesLabels_1 : decode cX7_takesLabels 1 = .ok (.iconst 2, 1) := by decide +kernel
theorem dX7_takesLabels_2 : decode cX7_takesLabels 2 = .ok (.if_icmp .lt 8, 3) := by decide +kernel
theorem dX7_takesLabels_5 : decode cX7_takesLabels 5 = .ok (.iload_n 1, 1) := by decide +kernel
theorem dX7_takesLabels_6 : decode cX7_takesLabels 6 = .ok (.iconst 4, 1) := by decide +kernel
theorem dX7_takesLabels_7 : decode cX7_takesLabels 7 = .ok (.if_icmp .le 5, 3) := by decide +kernel
theorem dX7_takesLabels_10 : decode cX7_takesLabels 10 = .ok (.iconst 0, 1) := by decide +kernel
theorem dX7_takesLabels_11 : decode cX7_takesLabels 11 = .ok (.ireturn, 1) := by decide +kernel
theorem dX7_takesLabels_12 : decode cX7_takesLabels 12 = .ok (.aload_n 0, 1) := by decide +kernel
theorem dX7_takesLabels_13 : decode cX7_takesLabels 13 = .ok (.getfield 12, 3) := by decide +kernel
theorem dX7_takesLabels_16 : decode cX7_takesLabels 16 = .ok (.getfield 67, 3) := by decide +kernel
theorem dX7_takesLabels_19 : decode cX7_takesLabels 19 = .ok (.aload_n 0, 1) := by decide +kernel
theorem dX7_takesLabels_20 : decode cX7_takesLabels 20 = .ok (.getfield 44, 3) := by decide +kernel
theorem dX7_takesLabels_23 : decode cX7_takesLabels 23 = .ok (.iload_n 1, 1) := by decide +kernel
theorem dX7_takesLabels_24 : decode cX7_takesLabels 24 = .ok (.iastore, 1) := by decide +kernel
theorem dX7_takesLabels_25 : decode cX7_takesLabels 25 = .ok (.aload_n 0, 1) := by decide +kernel
theorem dX7_takesLabels_26 : decode cX7_takesLabels 26 = .ok (.iconst 1, 1) := by decide +kernel
theorem dX7_takesLabels_27 : decode cX7_takesLabels 27 = .ok (.iconst 4, 1) := by decide +kernel
theorem dX7_takesLabels_28 : decode cX7_takesLabels 28 = .ok (.invokevirtual 37, 3) := by decide +kernel
theorem dX7_takesLabels_31 : decode cX7_takesLabels 31 = .ok (.ireturn, 1) := by decide +kernel
theorem dX7_takesNeed_0 : decode cX7_takesNeed 0 = .ok (.aload_n 0, 1) := by decide +kernel
theorem dX7_takesNeed_1 : decode cX7_takesNeed 1 = .ok (.getfield 12, 3) := by decide +kernel
theorem dX7_takesNeed_4 : decode cX7_takesNeed 4 = .ok (.iload_n 1, 1) := by decide +kernel
theorem dX7_takesNeed_5 : decode cX7_takesNeed 5 = .ok (.aload_n 0, 1) := by decide +kernel
theorem dX7_takesNeed_6 : decode cX7_takesNeed 6 = .ok (.getfield 44, 3) := by decide +kernel
theorem dX7_takesNeed_9 : decode cX7_takesNeed 9 = .ok (.invokevirtual 53, 3) := by decide +kernel
theorem dX7_takesNeed_12 : decode cX7_takesNeed 12 = .ok (.istore_n 2, 1) := by decide +kernel
theorem dX7_takesNeed_13 : decode cX7_takesNeed 13 = .ok (.iload_n 2, 1) := by decide +kernel
theorem dX7_takesNeed_14 : decode cX7_takesNeed 14 = .ok (.bipush (-6), 2) := by decide +kernel
theorem dX7_takesNeed_16 : decode cX7_takesNeed 16 = .ok (.if_icmp .eq 11, 3) := by decide +kernel
theorem dX7_takesNeed_19 : decode cX7_takesNeed 19 = .ok (.iload_n 1, 1) := by decide +kernel
theorem dX7_takesNeed_20 : decode cX7_takesNeed 20 = .ok (.aload_n 0, 1) := by decide +kernel
theorem dX7_takesNeed_21 : decode cX7_takesNeed 21 = .ok (.getfield 61, 3) := by decide +kernel
theorem dX7_takesNeed_24 : decode cX7_takesNeed 24 = .ok (.if_icmp .gt 5, 3) := by decide +kernel
theorem dX7_takesNeed_27 : decode cX7_takesNeed 27 = .ok (.iconst 0, 1) := by decide +kernel
theorem dX7_takesNeed_28 : decode cX7_takesNeed 28 = .ok (.ireturn, 1) := by decide +kernel
theorem dX7_takesNeed_29 : decode cX7_takesNeed 29 = .ok (.aload_n 0, 1) := by decide +kernel
theorem dX7_takesNeed_30 : decode cX7_takesNeed 30 = .ok (.getfield 12, 3) := by decide +kernel
theorem dX7_takesNeed_33 : decode cX7_takesNeed 33 = .ok (.getfield 70, 3) := by decide +kernel
theorem dX7_takesNeed_36 : decode cX7_takesNeed 36 = .ok (.aload_n 0, 1) := by decide +kernel
theorem dX7_takesNeed_37 : decode cX7_takesNeed 37 = .ok (.getfield 44, 3) := by decide +kernel
theorem dX7_takesNeed_40 : decode cX7_takesNeed 40 = .ok (.dup2, 1) := by decide +kernel
theorem dX7_takesNeed_41 : decode cX7_takesNeed 41 = .ok (.iaload, 1) := by decide +kernel
theorem dX7_takesNeed_42 : decode cX7_takesNeed 42 = .ok (.iconst 1, 1) := by decide +kernel
theorem dX7_takesNeed_43 : decode cX7_takesNeed 43 = .ok (.iload_n 2, 1) := by decide +kernel
theorem dX7_takesNeed_44 : decode cX7_takesNeed 44 = .ok (.ishl, 1) := by decide +kernel
theorem dX7_takesNeed_45 : decode cX7_takesNeed 45 = .ok (.ior, 1) := by decide +kernel
theorem dX7_takesNeed_46 : decode cX7_takesNeed 46 = .ok (.iastore, 1) := by decide +kernel
theorem dX7_takesNeed_47 : decode cX7_takesNeed 47 = .ok (.aload_n 0, 1) := by decide +kernel
theorem dX7_takesNeed_48 : decode cX7_takesNeed 48 = .ok (.iload_n 1, 1) := by decide +kernel
theorem dX7_takesNeed_49 : decode cX7_takesNeed 49 = .ok (.putfield 61, 3) := by decide +kernel
theorem dX7_takesNeed_52 : decode cX7_takesNeed 52 = .ok (.aload_n 0, 1) := by decide +kernel
theorem dX7_takesNeed_53 : decode cX7_takesNeed 53 = .ok (.iconst 1, 1) := by decide +kernel
theorem dX7_takesNeed_54 : decode cX7_takesNeed 54 = .ok (.bipush 6, 2) := by decide +kernel
theorem dX7_takesNeed_56 : decode cX7_takesNeed 56 = .ok (.invokevirtual 37, 3) := by decide +kernel
theorem dX7_takesNeed_59 : decode cX7_takesNeed 59 = .ok (.ireturn, 1) := by decide +kernel
theorem dX7_takesDigit_0 : decode cX7_takesDigit 0 = .ok (.iload_n 1, 1) := by decide +kernel
theorem dX7_takesDigit_1 : decode cX7_takesDigit 1 = .ok (.ifCond .lt 17, 3) := by decide +kernel
theorem dX7_takesDigit_4 : decode cX7_takesDigit 4 = .ok (.iload_n 1, 1) := by decide +kernel
theorem dX7_takesDigit_5 : decode cX7_takesDigit 5 = .ok (.bipush 9, 2) := by decide +kernel
theorem dX7_takesDigit_7 : decode cX7_takesDigit 7 = .ok (.if_icmp .gt 11, 3) := by decide +kernel
theorem dX7_takesDigit_10 : decode cX7_takesDigit 10 = .ok (.aload_n 0, 1) := by decide +kernel
theorem dX7_takesDigit_11 : decode cX7_takesDigit 11 = .ok (.getfield 64, 3) := by decide +kernel
theorem dX7_takesDigit_14 : decode cX7_takesDigit 14 = .ok (.iconst 3, 1) := by decide +kernel
theorem dX7_takesDigit_15 : decode cX7_takesDigit 15 = .ok (.if_icmp .lt 5, 3) := by decide +kernel
theorem dX7_takesDigit_18 : decode cX7_takesDigit 18 = .ok (.iconst 0, 1) := by decide +kernel
theorem dX7_takesDigit_19 : decode cX7_takesDigit 19 = .ok (.ireturn, 1) := by decide +kernel
theorem dX7_takesDigit_20 : decode cX7_takesDigit 20 = .ok (.aload_n 0, 1) := by decide +kernel
theorem dX7_takesDigit_21 : decode cX7_takesDigit 21 = .ok (.getfield 12, 3) := by decide +kernel
theorem dX7_takesDigit_24 : decode cX7_takesDigit 24 = .ok (.getfield 73, 3) := by decide +kernel
theorem dX7_takesDigit_27 : decode cX7_takesDigit 27 = .ok (.aload_n 0, 1) := by decide +kernel
theorem dX7_takesDigit_28 : decode cX7_takesDigit 28 = .ok (.getfield 44, 3) := by decide +kernel
theorem dX7_takesDigit_31 : decode cX7_takesDigit 31 = .ok (.aload_n 0, 1) := by decide +kernel
theorem dX7_takesDigit_32 : decode cX7_takesDigit 32 = .ok (.getfield 12, 3) := by decide +kernel
theorem dX7_takesDigit_35 : decode cX7_takesDigit 35 = .ok (.getfield 73, 3) := by decide +kernel
theorem dX7_takesDigit_38 : decode cX7_takesDigit 38 = .ok (.aload_n 0, 1) := by decide +kernel
theorem dX7_takesDigit_39 : decode cX7_takesDigit 39 = .ok (.getfield 44, 3) := by decide +kernel
theorem dX7_takesDigit_42 : decode cX7_takesDigit 42 = .ok (.iaload, 1) := by decide +kernel
theorem dX7_takesDigit_43 : decode cX7_takesDigit 43 = .ok (.bipush 10, 2) := by decide +kernel
theorem dX7_takesDigit_45 : decode cX7_takesDigit 45 = .ok (.imul, 1) := by decide +kernel
theorem dX7_takesDigit_46 : decode cX7_takesDigit 46 = .ok (.iload_n 1, 1) := by decide +kernel
theorem dX7_takesDigit_47 : decode cX7_takesDigit 47 = .ok (.iadd, 1) := by decide +kernel
theorem dX7_takesDigit_48 : decode cX7_takesDigit 48 = .ok (.iastore, 1) := by decide +kernel
theorem dX7_takesDigit_49 : decode cX7_takesDigit 49 = .ok (.aload_n 0, 1) := by decide +kernel
theorem dX7_takesDigit_50 : decode cX7_takesDigit 50 = .ok (.dup, 1) := by decide +kernel
theorem dX7_takesDigit_51 : decode cX7_takesDigit 51 = .ok (.getfield 64, 3) := by decide +kernel
theorem dX7_takesDigit_54 : decode cX7_takesDigit 54 = .ok (.iconst 1, 1) := by decide +kernel
theorem dX7_takesDigit_55 : decode cX7_takesDigit 55 = .ok (.iadd, 1) := by decide +kernel
theorem dX7_takesDigit_56 : decode cX7_takesDigit 56 = .ok (.putfield 64, 3) := by decide +kernel
theorem dX7_takesDigit_59 : decode cX7_takesDigit 59 = .ok (.aload_n 0, 1) := by decide +kernel
theorem dX7_takesDigit_60 : decode cX7_takesDigit 60 = .ok (.iconst 1, 1) := by decide +kernel
theorem dX7_takesDigit_61 : decode cX7_takesDigit 61 = .ok (.bipush 8, 2) := by decide +kernel
theorem dX7_takesDigit_63 : decode cX7_takesDigit 63 = .ok (.invokevirtual 37, 3) := by decide +kernel
theorem dX7_takesDigit_66 : decode cX7_takesDigit 66 = .ok (.ireturn, 1) := by decide +kernel
