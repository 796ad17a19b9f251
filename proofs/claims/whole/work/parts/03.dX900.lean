theorem dX9_init_0 : decode cX9_init 0 = .ok (.aload_n 0, 1) := by decide +kernel
theorem dX9_init_1 : decode cX9_init 1 = .ok (.invokespecial 1, 3) := by decide +kernel
theorem dX9_init_4 : decode cX9_init 4 = .ok (.aload_n 0, 1) := by decide +kernel
theorem dX9_init_5 : decode cX9_init 5 = .ok (.bipush 60, 2) := by decide +kernel
theorem dX9_init_7 : decode cX9_init 7 = .ok (.newarray .int, 2) := by decide +kernel
theorem dX9_init_9 : decode cX9_init 9 = .ok (.putfield 7, 3) := by decide +kernel
theorem dX9_init_12 : decode cX9_init 12 = .ok (.aload_n 0, 1) := by decide +kernel
theorem dX9_init_13 : decode cX9_init 13 = .ok (.bipush 8, 2) := by decide +kernel
theorem dX9_init_15 : decode cX9_init 15 = .ok (.newarray .int, 2) := by decide +kernel
theorem dX9_init_17 : decode cX9_init 17 = .ok (.putfield 13, 3) := by decide +kernel
theorem dX9_init_20 : decode cX9_init 20 = .ok (.aload_n 0, 1) := by decide +kernel
theorem dX9_init_21 : decode cX9_init 21 = .ok (.bipush 8, 2) := by decide +kernel
theorem dX9_init_23 : decode cX9_init 23 = .ok (.newarray .int, 2) := by decide +kernel
theorem dX9_init_25 : decode cX9_init 25 = .ok (.putfield 16, 3) := by decide +kernel
theorem dX9_init_28 : decode cX9_init 28 = .ok (.aload_n 0, 1) := by decide +kernel
theorem dX9_init_29 : decode cX9_init 29 = .ok (.bipush 8, 2) := by decide +kernel
theorem dX9_init_31 : decode cX9_init 31 = .ok (.newarray .int, 2) := by decide +kernel
theorem dX9_init_33 : decode cX9_init 33 = .ok (.putfield 19, 3) := by decide +kernel
theorem dX9_init_36 : decode cX9_init 36 = .ok (.aload_n 0, 1) := by decide +kernel
theorem dX9_init_37 : decode cX9_init 37 = .ok (.bipush 8, 2) := by decide +kernel
theorem dX9_init_39 : decode cX9_init 39 = .ok (.newarray .int, 2) := by decide +kernel
theorem dX9_init_41 : decode cX9_init 41 = .ok (.putfield 22, 3) := by decide +kernel
theorem dX9_init_44 : decode cX9_init 44 = .ok (.aload_n 0, 1) := by decide +kernel
theorem dX9_init_45 : decode cX9_init 45 = .ok (.bipush 24, 2) := by decide +kernel
theorem dX9_init_47 : decode cX9_init 47 = .ok (.newarray .int, 2) := by decide +kernel
theorem dX9_init_49 : decode cX9_init 49 = .ok (.putfield 25, 3) := by decide +kernel
theorem dX9_init_52 : decode cX9_init 52 = .ok (.aload_n 0, 1) := by decide +kernel
theorem dX9_init_53 : decode cX9_init 53 = .ok (.bipush 24, 2) := by decide +kernel
theorem dX9_init_55 : decode cX9_init 55 = .ok (.newarray .int, 2) := by decide +kernel
theorem dX9_init_57 : decode cX9_init 57 = .ok (.putfield 28, 3) := by decide +kernel
theorem dX9_init_60 : decode cX9_init 60 = .ok (.aload_n 0, 1) := by decide +kernel
theorem dX9_init_61 : decode cX9_init 61 = .ok (.bipush 24, 2) := by decide +kernel
theorem dX9_init_63 : decode cX9_init 63 = .ok (.newarray .int, 2) := by decide +kernel
theorem dX9_init_65 : decode cX9_init 65 = .ok (.putfield 31, 3) := by decide +kernel
theorem dX9_init_68 : decode cX9_init 68 = .ok (.aload_n 0, 1) := by decide +kernel
theorem dX9_init_69 : decode cX9_init 69 = .ok (.bipush 24, 2) := by decide +kernel
theorem dX9_init_71 : decode cX9_init 71 = .ok (.newarray .int, 2) := by decide +kernel
theorem dX9_init_73 : decode cX9_init 73 = .ok (.putfield 34, 3) := by decide +kernel
theorem dX9_init_76 : decode cX9_init 76 = .ok (.aload_n 0, 1) := by decide +kernel
theorem dX9_init_77 : decode cX9_init 77 = .ok (.bipush 24, 2) := by decide +kernel
theorem dX9_init_79 : decode cX9_init 79 = .ok (.newarray .int, 2) := by decide +kernel
theorem dX9_init_81 : decode cX9_init 81 = .ok (.putfield 37, 3) := by decide +kernel
theorem dX9_init_84 : decode cX9_init 84 = .ok (.aload_n 0, 1) := by decide +kernel
theorem dX9_init_85 : decode cX9_init 85 = .ok (.bipush 10, 2) := by decide +kernel
theorem dX9_init_87 : decode cX9_init 87 = .ok (.newarray .boolean, 2) := by decide +kernel
theorem dX9_init_89 : decode cX9_init 89 = .ok (.putfield 40, 3) := by decide +kernel
theorem dX9_init_92 : decode cX9_init 92 = .ok (.aload_n 0, 1) := by decide +kernel
theorem dX9_init_93 : decode cX9_init 93 = .ok (.bipush 10, 2) := by decide +kernel
theorem dX9_init_95 : decode cX9_init 95 = .ok (.newarray .int, 2) := by decide +kernel
theorem dX9_init_97 : decode cX9_init 97 = .ok (.putfield 44, 3) := by decide +kernel
theorem dX9_init_100 : decode cX9_init 100 = .ok (.aload_n 0, 1) := by decide +kernel
theorem dX9_init_101 : decode cX9_init 101 = .ok (.sipush 240, 3) := by decide +kernel
theorem dX9_init_104 : decode cX9_init 104 = .ok (.newarray .int, 2) := by decide +kernel
theorem dX9_init_106 : decode cX9_init 106 = .ok (.putfield 47, 3) := by decide +kernel
theorem dX9_init_109 : decode cX9_init 109 = .ok (.aload_n 0, 1) := by decide +kernel
theorem dX9_init_110 : decode cX9_init 110 = .ok (.bipush 6, 2) := by decide +kernel
theorem dX9_init_112 : decode cX9_init 112 = .ok (.newarray .int, 2) := by decide +kernel
theorem dX9_init_114 : decode cX9_init 114 = .ok (.putfield 50, 3) := by decide +kernel
theorem dX9_init_117 : decode cX9_init 117 = .ok (.aload_n 0, 1) := by decide +kernel
theorem dX9_init_118 : decode cX9_init 118 = .ok (.bipush 21, 2) := by decide +kernel
theorem dX9_init_120 : decode cX9_init 120 = .ok (.newarray .int, 2) := by decide +kernel
theorem dX9_init_122 : decode cX9_init 122 = .ok (.putfield 53, 3) := by decide +kernel
theorem dX9_init_125 : decode cX9_init 125 = .ok (.aload_n 0, 1) := by decide +kernel
theorem dX9_init_126 : decode cX9_init 126 = .ok (.bipush 21, 2) := by decide +kernel
theorem dX9_init_128 : decode cX9_init 128 = .ok (.newarray .int, 2) := by decide +kernel
theorem dX9_init_130 : decode cX9_init 130 = .ok (.putfield 56, 3) := by decide +kernel
theorem dX9_init_133 : decode cX9_init 133 = .ok (.aload_n 0, 1) := by decide +kernel
theorem dX9_init_134 : decode cX9_init 134 = .ok (.bipush 96, 2) := by decide +kernel
theorem dX9_init_136 : decode cX9_init 136 = .ok (.newarray .int, 2) := by decide +kernel
theorem dX9_init_138 : decode cX9_init 138 = .ok (.putfield 59, 3) := by decide +kernel
theorem dX9_init_141 : decode cX9_init 141 = .ok (.aload_n 0, 1) := by decide +kernel
theorem dX9_init_142 : decode cX9_init 142 = .ok (.sipush 480, 3) := by decide +kernel
theorem dX9_init_145 : decode cX9_init 145 = .ok (.newarray .int, 2) := by decide +kernel
theorem dX9_init_147 : decode cX9_init 147 = .ok (.putfield 62, 3) := by decide +kernel
theorem dX9_init_150 : decode cX9_init 150 = .ok (.aload_n 0, 1) := by decide +kernel
theorem dX9_init_151 : decode cX9_init 151 = .ok (.bipush 96, 2) := by decide +kernel
theorem dX9_init_153 : decode cX9_init 153 = .ok (.newarray .int, 2) := by decide +kernel
theorem dX9_init_155 : decode cX9_init 155 = .ok (.putfield 65, 3) := by decide +kernel
theorem dX9_init_158 : decode cX9_init 158 = .ok (.aload_n 0, 1) := by decide +kernel
theorem dX9_init_159 : decode cX9_init 159 = .ok (.sipush 480, 3) := by decide +kernel
theorem dX9_init_162 : decode cX9_init 162 = .ok (.newarray .int, 2) := by decide +kernel
theorem dX9_init_164 : decode cX9_init 164 = .ok (.putfield 68, 3) := by decide +kernel
theorem dX9_init_167 : decode cX9_init 167 = .ok (.aload_n 0, 1) := by decide +kernel
theorem dX9_init_168 : decode cX9_init 168 = .ok (.bipush 8, 2) := by decide +kernel
theorem dX9_init_170 : decode cX9_init 170 = .ok (.newarray .int, 2) := by decide +kernel
theorem dX9_init_172 : decode cX9_init 172 = .ok (.putfield 71, 3) := by decide +kernel
theorem dX9_init_175 : decode cX9_init 175 = .ok (.aload_n 0, 1) := by decide +kernel
theorem dX9_init_176 : decode cX9_init 176 = .ok (.bipush 8, 2) := by decide +kernel
theorem dX9_init_178 : decode cX9_init 178 = .ok (.newarray .int, 2) := by decide +kernel
theorem dX9_init_180 : decode cX9_init 180 = .ok (.putfield 74, 3) := by decide +kernel
theorem dX9_init_183 : decode cX9_init 183 = .ok (.aload_n 0, 1) := by decide +kernel
theorem dX9_init_184 : decode cX9_init 184 = .ok (.bipush 8, 2) := by decide +kernel
theorem dX9_init_186 : decode cX9_init 186 = .ok (.newarray .int, 2) := by decide +kernel
theorem dX9_init_188 : decode cX9_init 188 = .ok (.putfield 77, 3) := by decide +kernel
theorem dX9_init_191 : decode cX9_init 191 = .ok (.aload_n 0, 1) := by decide +kernel
theorem dX9_init_192 : decode cX9_init 192 = .ok (.bipush 8, 2) := by decide +kernel
theorem dX9_init_194 : decode cX9_init 194 = .ok (.newarray .int, 2) := by decide +kernel
theorem dX9_init_196 : decode cX9_init 196 = .ok (.putfield 80, 3) := by decide +kernel
theorem dX9_init_199 : decode cX9_init 199 = .ok (.aload_n 0, 1) := by decide +kernel
theorem dX9_init_200 : decode cX9_init 200 = .ok (.iconst 4, 1) := by decide +kernel
theorem dX9_init_201 : decode cX9_init 201 = .ok (.newarray .int, 2) := by decide +kernel
theorem dX9_init_203 : decode cX9_init 203 = .ok (.putfield 83, 3) := by decide +kernel
theorem dX9_init_206 : decode cX9_init 206 = .ok (.aload_n 0, 1) := by decide +kernel
theorem dX9_init_207 : decode cX9_init 207 = .ok (.bipush 25, 2) := by decide +kernel
theorem dX9_init_209 : decode cX9_init 209 = .ok (.newarray .long, 2) := by decide +kernel
theorem dX9_init_211 : decode cX9_init 211 = .ok (.putfield 86, 3) := by decide +kernel
theorem dX9_init_214 : decode cX9_init 214 = .ok (.aload_n 0, 1) := by decide +kernel
theorem dX9_init_215 : decode cX9_init 215 = .ok (.bipush 24, 2) := by decide +kernel
theorem dX9_init_217 : decode cX9_init 217 = .ok (.newarray .int, 2) := by decide +kernel
theorem dX9_init_219 : decode cX9_init 219 = .ok (.putfield 90, 3) := by decide +kernel
theorem dX9_init_222 : decode cX9_init 222 = .ok (.aload_n 0, 1) := by decide +kernel
theorem dX9_init_223 : decode cX9_init 223 = .ok (.getfield 50, 3) := by decide +kernel
theorem dX9_init_226 : decode cX9_init 226 = .ok (.iconst 0, 1) := by decide +kernel
theorem dX9_init_227 : decode cX9_init 227 = .ok (.bipush 10, 2) := by decide +kernel
theorem dX9_init_229 : decode cX9_init 229 = .ok (.iastore, 1) := by decide +kernel
theorem dX9_init_230 : decode cX9_init 230 = .ok (.aload_n 0, 1) := by decide +kernel
theorem dX9_init_231 : decode cX9_init 231 = .ok (.getfield 50, 3) := by decide +kernel
theorem dX9_init_234 : decode cX9_init 234 = .ok (.iconst 1, 1) := by decide +kernel
theorem dX9_init_235 : decode cX9_init 235 = .ok (.bipush 100, 2) := by decide +kernel
theorem dX9_init_237 : decode cX9_init 237 = .ok (.iastore, 1) := by decide +kernel
theorem dX9_init_238 : decode cX9_init 238 = .ok (.aload_n 0, 1) := by decide +kernel
theorem dX9_init_239 : decode cX9_init 239 = .ok (.getfield 50, 3) := by decide +kernel
theorem dX9_init_242 : decode cX9_init 242 = .ok (.iconst 2, 1) := by decide +kernel
theorem dX9_init_243 : decode cX9_init 243 = .ok (.bipush 30, 2) := by decide +kernel
theorem dX9_init_245 : decode cX9_init 245 = .ok (.iastore, 1) := by decide +kernel
theorem dX9_init_246 : decode cX9_init 246 = .ok (.aload_n 0, 1) := by decide +kernel
theorem dX9_init_247 : decode cX9_init 247 = .ok (.getfield 50, 3) := by decide +kernel
theorem dX9_init_250 : decode cX9_init 250 = .ok (.iconst 3, 1) := by decide +kernel
theorem dX9_init_251 : decode cX9_init 251 = .ok (.iconst 2, 1) := by decide +kernel
theorem dX9_init_252 : decode cX9_init 252 = .ok (.iastore, 1) := by decide +kernel
theorem dX9_init_253 : decode cX9_init 253 = .ok (.aload_n 0, 1) := by decide +kernel
theorem dX9_init_254 : decode cX9_init 254 = .ok (.getfield 50, 3) := by decide +kernel
theorem dX9_init_257 : decode cX9_init 257 = .ok (.iconst 4, 1) := by decide +kernel
theorem dX9_init_258 : decode cX9_init 258 = .ok (.iconst 3, 1) := by decide +kernel
theorem dX9_init_259 : decode cX9_init 259 = .ok (.iastore, 1) := by decide +kernel
theorem dX9_init_260 : decode cX9_init 260 = .ok (.aload_n 0, 1) := by decide +kernel
theorem dX9_init_261 : decode cX9_init 261 = .ok (.getfield 50, 3) := by decide +kernel
theorem dX9_init_264 : decode cX9_init 264 = .ok (.iconst 5, 1) := by decide +kernel
theorem dX9_init_265 : decode cX9_init 265 = .ok (.iconst 1, 1) := by decide +kernel
theorem dX9_init_266 : decode cX9_init 266 = .ok (.iastore, 1) := by decide +kernel
theorem dX9_init_267 : decode cX9_init 267 = .ok (.return_, 1) := by decide +kernel
theorem dX9_in_0 : decode cX9_in 0 = .ok (.iload_n 0, 1) := by decide +kernel
theorem dX9_in_1 : decode cX9_in 1 = .ok (.iload_n 1, 1) := by decide +kernel
theorem dX9_in_2 : decode cX9_in 2 = .ok (.if_icmp .lt 12, 3) := by decide +kernel
theorem dX9_in_5 : decode cX9_in 5 = .ok (.iload_n 0, 1) := by decide +kernel
theorem dX9_in_6 : decode cX9_in 6 = .ok (.iload_n 2, 1) := by decide +kernel
theorem dX9_in_7 : decode cX9_in 7 = .ok (.if_icmp .gt 7, 3) := by decide +kernel
theorem dX9_in_10 : decode cX9_in 10 = .ok (.iconst 1, 1) := by decide +kernel
theorem dX9_in_11 : decode cX9_in 11 = .ok (.goto 4, 3) := by decide +kernel
theorem dX9_in_14 : decode cX9_in 14 = .ok (.iconst 0, 1) := by decide +kernel
theorem dX9_in_15 : decode cX9_in 15 = .ok (.ireturn, 1) := by decide +kernel
theorem dX9_say_0 : decode cX9_say 0 = .ok (.iload_n 1, 1) := by decide +kernel
theorem dX9_say_1 : decode cX9_say 1 = .ok (.bipush 33, 2) := by decide +kernel
theorem dX9_say_3 : decode cX9_say 3 = .ok (.bipush 126, 2) := by decide +kernel
theorem dX9_say_5 : decode cX9_say 5 = .ok (.invokestatic 93, 3) := by decide +kernel
theorem dX9_say_8 : decode cX9_say 8 = .ok (.ifCond .ne 6, 3) := by decide +kernel
theorem dX9_say_11 : decode cX9_say 11 = .ok (.bipush (-2), 2) := by decide +kernel
theorem dX9_say_13 : decode cX9_say 13 = .ok (.ireturn, 1) := by decide +kernel
theorem dX9_say_14 : decode cX9_say 14 = .ok (.aload_n 0, 1) := by decide +kernel
theorem dX9_say_15 : decode cX9_say 15 = .ok (.getfield 97, 3) := by decide +kernel
theorem dX9_say_18 : decode cX9_say 18 = .ok (.bipush 60, 2) := by decide +kernel
theorem dX9_say_20 : decode cX9_say 20 = .ok (.if_icmp .ne 6, 3) := by decide +kernel
theorem dX9_say_23 : decode cX9_say 23 = .ok (.bipush (-4), 2) := by decide +kernel
theorem dX9_say_25 : decode cX9_say 25 = .ok (.ireturn, 1) := by decide +kernel
theorem dX9_say_26 : decode cX9_say 26 = .ok (.aload_n 0, 1) := by decide +kernel
theorem dX9_say_27 : decode cX9_say 27 = .ok (.getfield 7, 3) := by decide +kernel
theorem dX9_say_30 : decode cX9_say 30 = .ok (.aload_n 0, 1) := by decide +kernel
theorem dX9_say_31 : decode cX9_say 31 = .ok (.getfield 97, 3) := by decide +kernel
theorem dX9_say_34 : decode cX9_say 34 = .ok (.iload_n 1, 1) := by decide +kernel
theorem dX9_say_35 : decode cX9_say 35 = .ok (.iastore, 1) := by decide +kernel
theorem dX9_say_36 : decode cX9_say 36 = .ok (.aload_n 0, 1) := by decide +kernel
theorem dX9_say_37 : decode cX9_say 37 = .ok (.dup, 1) := by decide +kernel
theorem dX9_say_38 : decode cX9_say 38 = .ok (.getfield 97, 3) := by decide +kernel
theorem dX9_say_41 : decode cX9_say 41 = .ok (.iconst 1, 1) := by decide +kernel
theorem dX9_say_42 : decode cX9_say 42 = .ok (.iadd, 1) := by decide +kernel
theorem dX9_say_43 : decode cX9_say 43 = .ok (.putfield 97, 3) := by decide +kernel
theorem dX9_say_46 : decode cX9_say 46 = .ok (.aload_n 0, 1) := by decide +kernel
theorem dX9_say_47 : decode cX9_say 47 = .ok (.getfield 97, 3) := by decide +kernel
theorem dX9_say_50 : decode cX9_say 50 = .ok (.ireturn, 1) := by decide +kernel
theorem dX9_wipe_0 : decode cX9_wipe 0 = .ok (.aload_n 0, 1) := by decide +kernel
theorem dX9_wipe_1 : decode cX9_wipe 1 = .ok (.getfield 97, 3) := by decide +kernel
theorem dX9_wipe_4 : decode cX9_wipe 4 = .ok (.istore_n 1, 1) := by decide +kernel
theorem dX9_wipe_5 : decode cX9_wipe 5 = .ok (.aload_n 0, 1) := by decide +kernel
theorem dX9_wipe_6 : decode cX9_wipe 6 = .ok (.iconst 0, 1) := by decide +kernel
theorem dX9_wipe_7 : decode cX9_wipe 7 = .ok (.putfield 97, 3) := by decide +kernel
theorem dX9_wipe_10 : decode cX9_wipe 10 = .ok (.iload_n 1, 1) := by decide +kernel
theorem dX9_wipe_11 : decode cX9_wipe 11 = .ok (.ireturn, 1) := by decide +kernel
theorem dX9_named_0 : decode cX9_named 0 = .ok (.iconst 0, 1) := by decide +kernel
theorem dX9_named_1 : decode cX9_named 1 = .ok (.istore_n 3, 1) := by decide +kernel
theorem dX9_named_2 : decode cX9_named 2 = .ok (.iload_n 3, 1) := by decide +kernel
theorem dX9_named_3 : decode cX9_named 3 = .ok (.iload_n 2, 1) := by decide +kernel
theorem dX9_named_4 : decode cX9_named 4 = .ok (.if_icmp .ge 21, 3) := by decide +kernel
theorem dX9_named_7 : decode cX9_named 7 = .ok (.aload_n 0, 1) := by decide +kernel
theorem dX9_named_8 : decode cX9_named 8 = .ok (.getfield 71, 3) := by decide +kernel
theorem dX9_named_11 : decode cX9_named 11 = .ok (.iload_n 3, 1) := by decide +kernel
theorem dX9_named_12 : decode cX9_named 12 = .ok (.iaload, 1) := by decide +kernel
theorem dX9_named_13 : decode cX9_named 13 = .ok (.iload_n 1, 1) := by decide +kernel
theorem dX9_named_14 : decode cX9_named 14 = .ok (.if_icmp .ne 5, 3) := by decide +kernel
theorem dX9_named_17 : decode cX9_named 17 = .ok (.iload_n 3, 1) := by decide +kernel
theorem dX9_named_18 : decode cX9_named 18 = .ok (.ireturn, 1) := by decide +kernel
theorem dX9_named_19 : decode cX9_named 19 = .ok (.iinc 3 1, 3) := by decide +kernel
theorem dX9_named_22 : decode cX9_named 22 = .ok (.goto (-20), 3) := by decide +kernel
theorem dX9_named_25 : decode cX9_named 25 = .ok (.bipush (-6), 2) := by decide +kernel
theorem dX9_named_27 : decode cX9_named 27 = .ok (.ireturn, 1) := by decide +kernel
theorem dX9_faultOf_0 : decode cX9_faultOf 0 = .ok (.iconst 0, 1) := by decide +kernel
theorem dX9_faultOf_1 : decode cX9_faultOf 1 = .ok (.istore_n 1, 1) := by decide +kernel
theorem dX9_faultOf_2 : decode cX9_faultOf 2 = .ok (.iconst (-1), 1) := by decide +kernel
theorem dX9_faultOf_3 : decode cX9_faultOf 3 = .ok (.istore_n 2, 1) := by decide +kernel
theorem dX9_faultOf_4 : decode cX9_faultOf 4 = .ok (.aload_n 0, 1) := by decide +kernel
theorem dX9_faultOf_5 : decode cX9_faultOf 5 = .ok (.iconst 0, 1) := by decide +kernel
theorem dX9_faultOf_6 : decode cX9_faultOf 6 = .ok (.putfield 101, 3) := by decide +kernel
theorem dX9_faultOf_9 : decode cX9_faultOf 9 = .ok (.iconst 0, 1) := by decide +kernel
theorem dX9_faultOf_10 : decode cX9_faultOf 10 = .ok (.istore_n 3, 1) := by decide +kernel
theorem dX9_faultOf_11 : decode cX9_faultOf 11 = .ok (.iload_n 3, 1) := by decide +kernel
theorem dX9_faultOf_12 : decode cX9_faultOf 12 = .ok (.aload_n 0, 1) := by decide +kernel
theorem dX9_faultOf_13 : decode cX9_faultOf 13 = .ok (.getfield 97, 3) := by decide +kernel
theorem dX9_faultOf_16 : decode cX9_faultOf 16 = .ok (.if_icmp .ge 439, 3) := by decide +kernel
theorem dX9_faultOf_19 : decode cX9_faultOf 19 = .ok (.aload_n 0, 1) := by decide +kernel
theorem dX9_faultOf_20 : decode cX9_faultOf 20 = .ok (.getfield 7, 3) := by decide +kernel
theorem dX9_faultOf_23 : decode cX9_faultOf 23 = .ok (.iload_n 3, 1) := by decide +kernel
theorem dX9_faultOf_24 : decode cX9_faultOf 24 = .ok (.iaload, 1) := by decide +kernel
theorem dX9_faultOf_25 : decode cX9_faultOf 25 = .ok (.istore 4, 2) := by decide +kernel
theorem dX9_faultOf_27 : decode cX9_faultOf 27 = .ok (.aload_n 0, 1) := by decide +kernel
theorem dX9_faultOf_28 : decode cX9_faultOf 28 = .ok (.getfield 101, 3) := by decide +kernel
theorem dX9_faultOf_31 : decode cX9_faultOf 31 = .ok (.istore 5, 2) := by decide +kernel
theorem dX9_faultOf_33 : decode cX9_faultOf 33 = .ok (.bipush (-6), 2) := by decide +kernel
theorem dX9_faultOf_35 : decode cX9_faultOf 35 = .ok (.istore 6, 2) := by decide +kernel
theorem dX9_faultOf_37 : decode cX9_faultOf 37 = .ok (.iload_n 1, 1) := by decide +kernel
theorem dX9_faultOf_38 : decode cX9_faultOf 38 = .ok (.ifCond .ne 55, 3) := by decide +kernel
theorem dX9_faultOf_41 : decode cX9_faultOf 41 = .ok (.iload 4, 2) := by decide +kernel
theorem dX9_faultOf_43 : decode cX9_faultOf 43 = .ok (.bipush 97, 2) := by decide +kernel
theorem dX9_faultOf_45 : decode cX9_faultOf 45 = .ok (.bipush 104, 2) := by decide +kernel
theorem dX9_faultOf_47 : decode cX9_faultOf 47 = .ok (.invokestatic 93, 3) := by decide +kernel
theorem dX9_faultOf_50 : decode cX9_faultOf 50 = .ok (.ifCond .eq 210, 3) := by decide +kernel
theorem dX9_faultOf_53 : decode cX9_faultOf 53 = .ok (.aload_n 0, 1) := by decide +kernel
theorem dX9_faultOf_54 : decode cX9_faultOf 54 = .ok (.iload 4, 2) := by decide +kernel
theorem dX9_faultOf_56 : decode cX9_faultOf 56 = .ok (.bipush 97, 2) := by decide +kernel
theorem dX9_faultOf_58 : decode cX9_faultOf 58 = .ok (.isub, 1) := by decide +kernel
theorem dX9_faultOf_59 : decode cX9_faultOf 59 = .ok (.iload 5, 2) := by decide +kernel
theorem dX9_faultOf_61 : decode cX9_faultOf 61 = .ok (.invokevirtual 104, 3) := by decide +kernel
theorem dX9_faultOf_64 : decode cX9_faultOf 64 = .ok (.ifCond .ge 196, 3) := by decide +kernel
theorem dX9_faultOf_67 : decode cX9_faultOf 67 = .ok (.aload_n 0, 1) := by decide +kernel
theorem dX9_faultOf_68 : decode cX9_faultOf 68 = .ok (.getfield 71, 3) := by decide +kernel
theorem dX9_faultOf_71 : decode cX9_faultOf 71 = .ok (.iload 5, 2) := by decide +kernel
theorem dX9_faultOf_73 : decode cX9_faultOf 73 = .ok (.iload 4, 2) := by decide +kernel
theorem dX9_faultOf_75 : decode cX9_faultOf 75 = .ok (.bipush 97, 2) := by decide +kernel
theorem dX9_faultOf_77 : decode cX9_faultOf 77 = .ok (.isub, 1) := by decide +kernel
theorem dX9_faultOf_78 : decode cX9_faultOf 78 = .ok (.iastore, 1) := by decide +kernel
theorem dX9_faultOf_79 : decode cX9_faultOf 79 = .ok (.aload_n 0, 1) := by decide +kernel
theorem dX9_faultOf_80 : decode cX9_faultOf 80 = .ok (.getfield 77, 3) := by decide +kernel
theorem dX9_faultOf_83 : decode cX9_faultOf 83 = .ok (.iload 5, 2) := by decide +kernel
theorem dX9_faultOf_85 : decode cX9_faultOf 85 = .ok (.iconst 0, 1) := by decide +kernel
theorem dX9_faultOf_86 : decode cX9_faultOf 86 = .ok (.iastore, 1) := by decide +kernel
theorem dX9_faultOf_87 : decode cX9_faultOf 87 = .ok (.iconst 1, 1) := by decide +kernel
theorem dX9_faultOf_88 : decode cX9_faultOf 88 = .ok (.istore 6, 2) := by decide +kernel
theorem dX9_faultOf_90 : decode cX9_faultOf 90 = .ok (.goto 170, 3) := by decide +kernel
theorem dX9_faultOf_93 : decode cX9_faultOf 93 = .ok (.iload_n 1, 1) := by decide +kernel
theorem dX9_faultOf_94 : decode cX9_faultOf 94 = .ok (.iconst 1, 1) := by decide +kernel
theorem dX9_faultOf_95 : decode cX9_faultOf 95 = .ok (.if_icmp .ne 21, 3) := by decide +kernel
theorem dX9_faultOf_98 : decode cX9_faultOf 98 = .ok (.iload 4, 2) := by decide +kernel
theorem dX9_faultOf_100 : decode cX9_faultOf 100 = .ok (.bipush 58, 2) := by decide +kernel
theorem dX9_faultOf_102 : decode cX9_faultOf 102 = .ok (.if_icmp .ne 7, 3) := by decide +kernel
theorem dX9_faultOf_105 : decode cX9_faultOf 105 = .ok (.iconst 2, 1) := by decide +kernel
theorem dX9_faultOf_106 : decode cX9_faultOf 106 = .ok (.goto 5, 3) := by decide +kernel
theorem dX9_faultOf_109 : decode cX9_faultOf 109 = .ok (.bipush (-6), 2) := by decide +kernel
theorem dX9_faultOf_111 : decode cX9_faultOf 111 = .ok (.istore 6, 2) := by decide +kernel
theorem dX9_faultOf_113 : decode cX9_faultOf 113 = .ok (.goto 147, 3) := by decide +kernel
theorem dX9_faultOf_116 : decode cX9_faultOf 116 = .ok (.iload_n 1, 1) := by decide +kernel
theorem dX9_faultOf_117 : decode cX9_faultOf 117 = .ok (.iconst 2, 1) := by decide +kernel
theorem dX9_faultOf_118 : decode cX9_faultOf 118 = .ok (.if_icmp .ne 47, 3) := by decide +kernel
theorem dX9_faultOf_121 : decode cX9_faultOf 121 = .ok (.iload 4, 2) := by decide +kernel
theorem dX9_faultOf_123 : decode cX9_faultOf 123 = .ok (.bipush 67, 2) := by decide +kernel
theorem dX9_faultOf_125 : decode cX9_faultOf 125 = .ok (.if_icmp .ne 7, 3) := by decide +kernel
theorem dX9_faultOf_128 : decode cX9_faultOf 128 = .ok (.iconst 3, 1) := by decide +kernel
theorem dX9_faultOf_129 : decode cX9_faultOf 129 = .ok (.goto 23, 3) := by decide +kernel
theorem dX9_faultOf_132 : decode cX9_faultOf 132 = .ok (.iload 4, 2) := by decide +kernel
theorem dX9_faultOf_134 : decode cX9_faultOf 134 = .ok (.bipush 75, 2) := by decide +kernel
theorem dX9_faultOf_136 : decode cX9_faultOf 136 = .ok (.if_icmp .eq 10, 3) := by decide +kernel
theorem dX9_faultOf_139 : decode cX9_faultOf 139 = .ok (.iload 4, 2) := by decide +kernel
theorem dX9_faultOf_141 : decode cX9_faultOf 141 = .ok (.bipush 79, 2) := by decide +kernel
theorem dX9_faultOf_143 : decode cX9_faultOf 143 = .ok (.if_icmp .ne 7, 3) := by decide +kernel
theorem dX9_faultOf_146 : decode cX9_faultOf 146 = .ok (.iconst 4, 1) := by decide +kernel
theorem dX9_faultOf_147 : decode cX9_faultOf 147 = .ok (.goto 5, 3) := by decide +kernel
theorem dX9_faultOf_150 : decode cX9_faultOf 150 = .ok (.bipush (-6), 2) := by decide +kernel
theorem dX9_faultOf_152 : decode cX9_faultOf 152 = .ok (.istore 6, 2) := by decide +kernel
theorem dX9_faultOf_154 : decode cX9_faultOf 154 = .ok (.aload_n 0, 1) := by decide +kernel
theorem dX9_faultOf_155 : decode cX9_faultOf 155 = .ok (.getfield 74, 3) := by decide +kernel
theorem dX9_faultOf_158 : decode cX9_faultOf 158 = .ok (.iload 5, 2) := by decide +kernel
theorem dX9_faultOf_160 : decode cX9_faultOf 160 = .ok (.iconst 2, 1) := by decide +kernel
theorem dX9_faultOf_161 : decode cX9_faultOf 161 = .ok (.iastore, 1) := by decide +kernel
theorem dX9_faultOf_162 : decode cX9_faultOf 162 = .ok (.goto 98, 3) := by decide +kernel
theorem dX9_faultOf_165 : decode cX9_faultOf 165 = .ok (.iload_n 1, 1) := by decide +kernel
theorem dX9_faultOf_166 : decode cX9_faultOf 166 = .ok (.iconst 3, 1) := by decide +kernel
theorem dX9_faultOf_167 : decode cX9_faultOf 167 = .ok (.if_icmp .ne 38, 3) := by decide +kernel
theorem dX9_faultOf_170 : decode cX9_faultOf 170 = .ok (.iload 4, 2) := by decide +kernel
theorem dX9_faultOf_172 : decode cX9_faultOf 172 = .ok (.bipush 50, 2) := by decide +kernel
theorem dX9_faultOf_174 : decode cX9_faultOf 174 = .ok (.bipush 52, 2) := by decide +kernel
theorem dX9_faultOf_176 : decode cX9_faultOf 176 = .ok (.invokestatic 93, 3) := by decide +kernel
theorem dX9_faultOf_179 : decode cX9_faultOf 179 = .ok (.ifCond .eq 7, 3) := by decide +kernel
theorem dX9_faultOf_182 : decode cX9_faultOf 182 = .ok (.iconst 4, 1) := by decide +kernel
theorem dX9_faultOf_183 : decode cX9_faultOf 183 = .ok (.goto 5, 3) := by decide +kernel
theorem dX9_faultOf_186 : decode cX9_faultOf 186 = .ok (.bipush (-6), 2) := by decide +kernel
theorem dX9_faultOf_188 : decode cX9_faultOf 188 = .ok (.istore 6, 2) := by decide +kernel
theorem dX9_faultOf_190 : decode cX9_faultOf 190 = .ok (.aload_n 0, 1) := by decide +kernel
theorem dX9_faultOf_191 : decode cX9_faultOf 191 = .ok (.getfield 74, 3) := by decide +kernel
theorem dX9_faultOf_194 : decode cX9_faultOf 194 = .ok (.iload 5, 2) := by decide +kernel
theorem dX9_faultOf_196 : decode cX9_faultOf 196 = .ok (.iload 4, 2) := by decide +kernel
theorem dX9_faultOf_198 : decode cX9_faultOf 198 = .ok (.bipush 48, 2) := by decide +kernel
theorem dX9_faultOf_200 : decode cX9_faultOf 200 = .ok (.isub, 1) := by decide +kernel
theorem dX9_faultOf_201 : decode cX9_faultOf 201 = .ok (.iastore, 1) := by decide +kernel
theorem dX9_faultOf_202 : decode cX9_faultOf 202 = .ok (.goto 58, 3) := by decide +kernel
theorem dX9_faultOf_205 : decode cX9_faultOf 205 = .ok (.iload_n 1, 1) := by decide +kernel
theorem dX9_faultOf_206 : decode cX9_faultOf 206 = .ok (.iconst 4, 1) := by decide +kernel
theorem dX9_faultOf_207 : decode cX9_faultOf 207 = .ok (.if_icmp .eq 9, 3) := by decide +kernel
theorem dX9_faultOf_210 : decode cX9_faultOf 210 = .ok (.iload_n 1, 1) := by decide +kernel
theorem dX9_faultOf_211 : decode cX9_faultOf 211 = .ok (.bipush 6, 2) := by decide +kernel
theorem dX9_faultOf_213 : decode cX9_faultOf 213 = .ok (.if_icmp .ne 47, 3) := by decide +kernel
theorem dX9_faultOf_216 : decode cX9_faultOf 216 = .ok (.iload 4, 2) := by decide +kernel
theorem dX9_faultOf_218 : decode cX9_faultOf 218 = .ok (.bipush 33, 2) := by decide +kernel
theorem dX9_faultOf_220 : decode cX9_faultOf 220 = .ok (.if_icmp .ne 18, 3) := by decide +kernel
theorem dX9_faultOf_223 : decode cX9_faultOf 223 = .ok (.bipush 7, 2) := by decide +kernel
theorem dX9_faultOf_225 : decode cX9_faultOf 225 = .ok (.istore 6, 2) := by decide +kernel
theorem dX9_faultOf_227 : decode cX9_faultOf 227 = .ok (.aload_n 0, 1) := by decide +kernel
theorem dX9_faultOf_228 : decode cX9_faultOf 228 = .ok (.getfield 80, 3) := by decide +kernel
theorem dX9_faultOf_231 : decode cX9_faultOf 231 = .ok (.iload 5, 2) := by decide +kernel
theorem dX9_faultOf_233 : decode cX9_faultOf 233 = .ok (.iconst 0, 1) := by decide +kernel
theorem dX9_faultOf_234 : decode cX9_faultOf 234 = .ok (.iastore, 1) := by decide +kernel
theorem dX9_faultOf_235 : decode cX9_faultOf 235 = .ok (.goto 25, 3) := by decide +kernel
theorem dX9_faultOf_238 : decode cX9_faultOf 238 = .ok (.iload_n 1, 1) := by decide +kernel
theorem dX9_faultOf_239 : decode cX9_faultOf 239 = .ok (.iconst 4, 1) := by decide +kernel
theorem dX9_faultOf_240 : decode cX9_faultOf 240 = .ok (.if_icmp .ne 20, 3) := by decide +kernel
theorem dX9_faultOf_243 : decode cX9_faultOf 243 = .ok (.iload 4, 2) := by decide +kernel
theorem dX9_faultOf_245 : decode cX9_faultOf 245 = .ok (.bipush 60, 2) := by decide +kernel
theorem dX9_faultOf_247 : decode cX9_faultOf 247 = .ok (.if_icmp .ne 13, 3) := by decide +kernel
theorem dX9_faultOf_250 : decode cX9_faultOf 250 = .ok (.iload 5, 2) := by decide +kernel
theorem dX9_faultOf_252 : decode cX9_faultOf 252 = .ok (.ifCond .le 8, 3) := by decide +kernel
theorem dX9_faultOf_255 : decode cX9_faultOf 255 = .ok (.iconst 5, 1) := by decide +kernel
theorem dX9_faultOf_256 : decode cX9_faultOf 256 = .ok (.istore 6, 2) := by decide +kernel
theorem dX9_faultOf_258 : decode cX9_faultOf 258 = .ok (.iconst (-1), 1) := by decide +kernel
theorem dX9_faultOf_259 : decode cX9_faultOf 259 = .ok (.istore_n 2, 1) := by decide +kernel
theorem dX9_faultOf_260 : decode cX9_faultOf 260 = .ok (.iload 6, 2) := by decide +kernel
theorem dX9_faultOf_262 : decode cX9_faultOf 262 = .ok (.ifCond .ge 82, 3) := by decide +kernel
theorem dX9_faultOf_265 : decode cX9_faultOf 265 = .ok (.iload_n 1, 1) := by decide +kernel
theorem dX9_faultOf_266 : decode cX9_faultOf 266 = .ok (.iconst 5, 1) := by decide +kernel
theorem dX9_faultOf_267 : decode cX9_faultOf 267 = .ok (.if_icmp .eq 9, 3) := by decide +kernel
theorem dX9_faultOf_270 : decode cX9_faultOf 270 = .ok (.iload_n 1, 1) := by decide +kernel
theorem dX9_faultOf_271 : decode cX9_faultOf 271 = .ok (.bipush 6, 2) := by decide +kernel
theorem dX9_faultOf_273 : decode cX9_faultOf 273 = .ok (.if_icmp .ne 71, 3) := by decide +kernel
theorem dX9_faultOf_276 : decode cX9_faultOf 276 = .ok (.iload 4, 2) := by decide +kernel
theorem dX9_faultOf_278 : decode cX9_faultOf 278 = .ok (.bipush 97, 2) := by decide +kernel
theorem dX9_faultOf_280 : decode cX9_faultOf 280 = .ok (.bipush 104, 2) := by decide +kernel
theorem dX9_faultOf_282 : decode cX9_faultOf 282 = .ok (.invokestatic 93, 3) := by decide +kernel
theorem dX9_faultOf_285 : decode cX9_faultOf 285 = .ok (.ifCond .eq 59, 3) := by decide +kernel
theorem dX9_faultOf_288 : decode cX9_faultOf 288 = .ok (.iload 4, 2) := by decide +kernel
theorem dX9_faultOf_290 : decode cX9_faultOf 290 = .ok (.bipush 97, 2) := by decide +kernel
theorem dX9_faultOf_292 : decode cX9_faultOf 292 = .ok (.isub, 1) := by decide +kernel
theorem dX9_faultOf_293 : decode cX9_faultOf 293 = .ok (.iload_n 2, 1) := by decide +kernel
theorem dX9_faultOf_294 : decode cX9_faultOf 294 = .ok (.if_icmp .le 50, 3) := by decide +kernel
theorem dX9_faultOf_297 : decode cX9_faultOf 297 = .ok (.aload_n 0, 1) := by decide +kernel
theorem dX9_faultOf_298 : decode cX9_faultOf 298 = .ok (.iload 4, 2) := by decide +kernel
theorem dX9_faultOf_300 : decode cX9_faultOf 300 = .ok (.bipush 97, 2) := by decide +kernel
theorem dX9_faultOf_302 : decode cX9_faultOf 302 = .ok (.isub, 1) := by decide +kernel
theorem dX9_faultOf_303 : decode cX9_faultOf 303 = .ok (.iload 5, 2) := by decide +kernel
theorem dX9_faultOf_305 : decode cX9_faultOf 305 = .ok (.invokevirtual 104, 3) := by decide +kernel
theorem dX9_faultOf_308 : decode cX9_faultOf 308 = .ok (.ifCond .lt 36, 3) := by decide +kernel
theorem dX9_faultOf_311 : decode cX9_faultOf 311 = .ok (.aload_n 0, 1) := by decide +kernel
theorem dX9_faultOf_312 : decode cX9_faultOf 312 = .ok (.getfield 77, 3) := by decide +kernel
theorem dX9_faultOf_315 : decode cX9_faultOf 315 = .ok (.iload 5, 2) := by decide +kernel
theorem dX9_faultOf_317 : decode cX9_faultOf 317 = .ok (.dup2, 1) := by decide +kernel
theorem dX9_faultOf_318 : decode cX9_faultOf 318 = .ok (.iaload, 1) := by decide +kernel
theorem dX9_faultOf_319 : decode cX9_faultOf 319 = .ok (.iconst 1, 1) := by decide +kernel
theorem dX9_faultOf_320 : decode cX9_faultOf 320 = .ok (.aload_n 0, 1) := by decide +kernel
theorem dX9_faultOf_321 : decode cX9_faultOf 321 = .ok (.iload 4, 2) := by decide +kernel
theorem dX9_faultOf_323 : decode cX9_faultOf 323 = .ok (.bipush 97, 2) := by decide +kernel
theorem dX9_faultOf_325 : decode cX9_faultOf 325 = .ok (.isub, 1) := by decide +kernel
theorem dX9_faultOf_326 : decode cX9_faultOf 326 = .ok (.iload 5, 2) := by decide +kernel
theorem dX9_faultOf_328 : decode cX9_faultOf 328 = .ok (.invokevirtual 104, 3) := by decide +kernel
theorem dX9_faultOf_331 : decode cX9_faultOf 331 = .ok (.ishl, 1) := by decide +kernel
theorem dX9_faultOf_332 : decode cX9_faultOf 332 = .ok (.ior, 1) := by decide +kernel
theorem dX9_faultOf_333 : decode cX9_faultOf 333 = .ok (.iastore, 1) := by decide +kernel
theorem dX9_faultOf_334 : decode cX9_faultOf 334 = .ok (.iload 4, 2) := by decide +kernel
theorem dX9_faultOf_336 : decode cX9_faultOf 336 = .ok (.bipush 97, 2) := by decide +kernel
theorem dX9_faultOf_338 : decode cX9_faultOf 338 = .ok (.isub, 1) := by decide +kernel
theorem dX9_faultOf_339 : decode cX9_faultOf 339 = .ok (.istore_n 2, 1) := by decide +kernel
theorem dX9_faultOf_340 : decode cX9_faultOf 340 = .ok (.bipush 6, 2) := by decide +kernel
theorem dX9_faultOf_342 : decode cX9_faultOf 342 = .ok (.istore 6, 2) := by decide +kernel
theorem dX9_faultOf_344 : decode cX9_faultOf 344 = .ok (.iload_n 1, 1) := by decide +kernel
theorem dX9_faultOf_345 : decode cX9_faultOf 345 = .ok (.bipush 7, 2) := by decide +kernel
theorem dX9_faultOf_347 : decode cX9_faultOf 347 = .ok (.bipush 10, 2) := by decide +kernel
theorem dX9_faultOf_349 : decode cX9_faultOf 349 = .ok (.invokestatic 93, 3) := by decide +kernel
theorem dX9_faultOf_352 : decode cX9_faultOf 352 = .ok (.ifCond .eq 49, 3) := by decide +kernel
theorem dX9_faultOf_355 : decode cX9_faultOf 355 = .ok (.iload 4, 2) := by decide +kernel
theorem dX9_faultOf_357 : decode cX9_faultOf 357 = .ok (.bipush 48, 2) := by decide +kernel
theorem dX9_faultOf_359 : decode cX9_faultOf 359 = .ok (.bipush 57, 2) := by decide +kernel
theorem dX9_faultOf_361 : decode cX9_faultOf 361 = .ok (.invokestatic 93, 3) := by decide +kernel
theorem dX9_faultOf_364 : decode cX9_faultOf 364 = .ok (.ifCond .eq 37, 3) := by decide +kernel
theorem dX9_faultOf_367 : decode cX9_faultOf 367 = .ok (.iload_n 1, 1) := by decide +kernel
theorem dX9_faultOf_368 : decode cX9_faultOf 368 = .ok (.bipush 10, 2) := by decide +kernel
theorem dX9_faultOf_370 : decode cX9_faultOf 370 = .ok (.if_icmp .ge 31, 3) := by decide +kernel
theorem dX9_faultOf_373 : decode cX9_faultOf 373 = .ok (.aload_n 0, 1) := by decide +kernel
theorem dX9_faultOf_374 : decode cX9_faultOf 374 = .ok (.getfield 80, 3) := by decide +kernel
theorem dX9_faultOf_377 : decode cX9_faultOf 377 = .ok (.iload 5, 2) := by decide +kernel
theorem dX9_faultOf_379 : decode cX9_faultOf 379 = .ok (.bipush 10, 2) := by decide +kernel
theorem dX9_faultOf_381 : decode cX9_faultOf 381 = .ok (.aload_n 0, 1) := by decide +kernel
theorem dX9_faultOf_382 : decode cX9_faultOf 382 = .ok (.getfield 80, 3) := by decide +kernel
theorem dX9_faultOf_385 : decode cX9_faultOf 385 = .ok (.iload 5, 2) := by decide +kernel
theorem dX9_faultOf_387 : decode cX9_faultOf 387 = .ok (.iaload, 1) := by decide +kernel
theorem dX9_faultOf_388 : decode cX9_faultOf 388 = .ok (.imul, 1) := by decide +kernel
theorem dX9_faultOf_389 : decode cX9_faultOf 389 = .ok (.iload 4, 2) := by decide +kernel
theorem dX9_faultOf_391 : decode cX9_faultOf 391 = .ok (.iadd, 1) := by decide +kernel
theorem dX9_faultOf_392 : decode cX9_faultOf 392 = .ok (.bipush 48, 2) := by decide +kernel
theorem dX9_faultOf_394 : decode cX9_faultOf 394 = .ok (.isub, 1) := by decide +kernel
theorem dX9_faultOf_395 : decode cX9_faultOf 395 = .ok (.iastore, 1) := by decide +kernel
theorem dX9_faultOf_396 : decode cX9_faultOf 396 = .ok (.iload_n 1, 1) := by decide +kernel
theorem dX9_faultOf_397 : decode cX9_faultOf 397 = .ok (.iconst 1, 1) := by decide +kernel
theorem dX9_faultOf_398 : decode cX9_faultOf 398 = .ok (.iadd, 1) := by decide +kernel
theorem dX9_faultOf_399 : decode cX9_faultOf 399 = .ok (.istore 6, 2) := by decide +kernel
theorem dX9_faultOf_401 : decode cX9_faultOf 401 = .ok (.iload_n 1, 1) := by decide +kernel
theorem dX9_faultOf_402 : decode cX9_faultOf 402 = .ok (.bipush 8, 2) := by decide +kernel
theorem dX9_faultOf_404 : decode cX9_faultOf 404 = .ok (.bipush 10, 2) := by decide +kernel
theorem dX9_faultOf_406 : decode cX9_faultOf 406 = .ok (.invokestatic 93, 3) := by decide +kernel
theorem dX9_faultOf_409 : decode cX9_faultOf 409 = .ok (.ifCond .eq 30, 3) := by decide +kernel
theorem dX9_faultOf_412 : decode cX9_faultOf 412 = .ok (.iload 4, 2) := by decide +kernel
theorem dX9_faultOf_414 : decode cX9_faultOf 414 = .ok (.bipush 59, 2) := by decide +kernel
theorem dX9_faultOf_416 : decode cX9_faultOf 416 = .ok (.if_icmp .ne 23, 3) := by decide +kernel
theorem dX9_faultOf_419 : decode cX9_faultOf 419 = .ok (.iload 5, 2) := by decide +kernel
theorem dX9_faultOf_421 : decode cX9_faultOf 421 = .ok (.bipush 7, 2) := by decide +kernel
theorem dX9_faultOf_423 : decode cX9_faultOf 423 = .ok (.if_icmp .ge 16, 3) := by decide +kernel
theorem dX9_faultOf_426 : decode cX9_faultOf 426 = .ok (.aload_n 0, 1) := by decide +kernel
theorem dX9_faultOf_427 : decode cX9_faultOf 427 = .ok (.dup, 1) := by decide +kernel
theorem dX9_faultOf_428 : decode cX9_faultOf 428 = .ok (.getfield 101, 3) := by decide +kernel
theorem dX9_faultOf_431 : decode cX9_faultOf 431 = .ok (.iconst 1, 1) := by decide +kernel
theorem dX9_faultOf_432 : decode cX9_faultOf 432 = .ok (.iadd, 1) := by decide +kernel
theorem dX9_faultOf_433 : decode cX9_faultOf 433 = .ok (.putfield 101, 3) := by decide +kernel
theorem dX9_faultOf_436 : decode cX9_faultOf 436 = .ok (.iconst 0, 1) := by decide +kernel
theorem dX9_faultOf_437 : decode cX9_faultOf 437 = .ok (.istore 6, 2) := by decide +kernel
theorem dX9_faultOf_439 : decode cX9_faultOf 439 = .ok (.iload 6, 2) := by decide +kernel
theorem dX9_faultOf_441 : decode cX9_faultOf 441 = .ok (.ifCond .ge 5, 3) := by decide +kernel
theorem dX9_faultOf_444 : decode cX9_faultOf 444 = .ok (.iload_n 3, 1) := by decide +kernel
theorem dX9_faultOf_445 : decode cX9_faultOf 445 = .ok (.ireturn, 1) := by decide +kernel
theorem dX9_faultOf_446 : decode cX9_faultOf 446 = .ok (.iload 6, 2) := by decide +kernel
theorem dX9_faultOf_448 : decode cX9_faultOf 448 = .ok (.istore_n 1, 1) := by decide +kernel
theorem dX9_faultOf_449 : decode cX9_faultOf 449 = .ok (.iinc 3 1, 3) := by decide +kernel
theorem dX9_faultOf_452 : decode cX9_faultOf 452 = .ok (.goto (-441), 3) := by decide +kernel
theorem dX9_faultOf_455 : decode cX9_faultOf 455 = .ok (.aload_n 0, 1) := by decide +kernel
theorem dX9_faultOf_456 : decode cX9_faultOf 456 = .ok (.dup, 1) := by decide +kernel
theorem dX9_faultOf_457 : decode cX9_faultOf 457 = .ok (.getfield 101, 3) := by decide +kernel
theorem dX9_faultOf_460 : decode cX9_faultOf 460 = .ok (.iconst 1, 1) := by decide +kernel
theorem dX9_faultOf_461 : decode cX9_faultOf 461 = .ok (.iadd, 1) := by decide +kernel
theorem dX9_faultOf_462 : decode cX9_faultOf 462 = .ok (.putfield 101, 3) := by decide +kernel
theorem dX9_faultOf_465 : decode cX9_faultOf 465 = .ok (.iload_n 1, 1) := by decide +kernel
theorem dX9_faultOf_466 : decode cX9_faultOf 466 = .ok (.bipush 8, 2) := by decide +kernel
theorem dX9_faultOf_468 : decode cX9_faultOf 468 = .ok (.bipush 10, 2) := by decide +kernel
theorem dX9_faultOf_470 : decode cX9_faultOf 470 = .ok (.invokestatic 93, 3) := by decide +kernel
theorem dX9_faultOf_473 : decode cX9_faultOf 473 = .ok (.ifCond .eq 8, 3) := by decide +kernel
theorem dX9_faultOf_476 : decode cX9_faultOf 476 = .ok (.bipush (-6), 2) := by decide +kernel
theorem dX9_faultOf_478 : decode cX9_faultOf 478 = .ok (.goto 7, 3) := by decide +kernel
theorem dX9_faultOf_481 : decode cX9_faultOf 481 = .ok (.aload_n 0, 1) := by decide +kernel
theorem dX9_faultOf_482 : decode cX9_faultOf 482 = .ok (.getfield 97, 3) := by decide +kernel
theorem dX9_faultOf_485 : decode cX9_faultOf 485 = .ok (.ireturn, 1) := by decide +kernel
theorem dX9_fault_0 : decode cX9_fault 0 = .ok (.aload_n 0, 1) := by decide +kernel
theorem dX9_fault_1 : decode cX9_fault 1 = .ok (.invokevirtual 108, 3) := by decide +kernel
theorem dX9_fault_4 : decode cX9_fault 4 = .ok (.ireturn, 1) := by decide +kernel
theorem dX9_task_0 : decode cX9_task 0 = .ok (.aload_n 0, 1) := by decide +kernel
theorem dX9_task_1 : decode cX9_task 1 = .ok (.invokevirtual 108, 3) := by decide +kernel
theorem dX9_task_4 : decode cX9_task 4 = .ok (.ifCond .lt 6, 3) := by decide +kernel
theorem dX9_task_7 : decode cX9_task 7 = .ok (.bipush (-5), 2) := by decide +kernel
theorem dX9_task_9 : decode cX9_task 9 = .ok (.ireturn, 1) := by decide +kernel
theorem dX9_task_10 : decode cX9_task 10 = .ok (.aload_n 0, 1) := by decide +kernel
theorem dX9_task_11 : decode cX9_task 11 = .ok (.aload_n 0, 1) := by decide +kernel
theorem dX9_task_12 : decode cX9_task 12 = .ok (.getfield 101, 3) := by decide +kernel
theorem dX9_task_15 : decode cX9_task 15 = .ok (.putfield 112, 3) := by decide +kernel
theorem dX9_task_18 : decode cX9_task 18 = .ok (.iconst 0, 1) := by decide +kernel
theorem dX9_task_19 : decode cX9_task 19 = .ok (.istore_n 1, 1) := by decide +kernel
theorem dX9_task_20 : decode cX9_task 20 = .ok (.iload_n 1, 1) := by decide +kernel
theorem dX9_task_21 : decode cX9_task 21 = .ok (.aload_n 0, 1) := by decide +kernel
theorem dX9_task_22 : decode cX9_task 22 = .ok (.getfield 112, 3) := by decide +kernel
theorem dX9_task_25 : decode cX9_task 25 = .ok (.if_icmp .ge 57, 3) := by decide +kernel
theorem dX9_task_28 : decode cX9_task 28 = .ok (.aload_n 0, 1) := by decide +kernel
theorem dX9_task_29 : decode cX9_task 29 = .ok (.getfield 13, 3) := by decide +kernel
theorem dX9_task_32 : decode cX9_task 32 = .ok (.iload_n 1, 1) := by decide +kernel
theorem dX9_task_33 : decode cX9_task 33 = .ok (.aload_n 0, 1) := by decide +kernel
theorem dX9_task_34 : decode cX9_task 34 = .ok (.getfield 71, 3) := by decide +kernel
theorem dX9_task_37 : decode cX9_task 37 = .ok (.iload_n 1, 1) := by decide +kernel
theorem dX9_task_38 : decode cX9_task 38 = .ok (.iaload, 1) := by decide +kernel
theorem dX9_task_39 : decode cX9_task 39 = .ok (.iastore, 1) := by decide +kernel
theorem dX9_task_40 : decode cX9_task 40 = .ok (.aload_n 0, 1) := by decide +kernel
theorem dX9_task_41 : decode cX9_task 41 = .ok (.getfield 16, 3) := by decide +kernel
theorem dX9_task_44 : decode cX9_task 44 = .ok (.iload_n 1, 1) := by decide +kernel
theorem dX9_task_45 : decode cX9_task 45 = .ok (.aload_n 0, 1) := by decide +kernel
theorem dX9_task_46 : decode cX9_task 46 = .ok (.getfield 74, 3) := by decide +kernel
theorem dX9_task_49 : decode cX9_task 49 = .ok (.iload_n 1, 1) := by decide +kernel
theorem dX9_task_50 : decode cX9_task 50 = .ok (.iaload, 1) := by decide +kernel
theorem dX9_task_51 : decode cX9_task 51 = .ok (.iastore, 1) := by decide +kernel
theorem dX9_task_52 : decode cX9_task 52 = .ok (.aload_n 0, 1) := by decide +kernel
theorem dX9_task_53 : decode cX9_task 53 = .ok (.getfield 19, 3) := by decide +kernel
theorem dX9_task_56 : decode cX9_task 56 = .ok (.iload_n 1, 1) := by decide +kernel
theorem dX9_task_57 : decode cX9_task 57 = .ok (.aload_n 0, 1) := by decide +kernel
theorem dX9_task_58 : decode cX9_task 58 = .ok (.getfield 77, 3) := by decide +kernel
theorem dX9_task_61 : decode cX9_task 61 = .ok (.iload_n 1, 1) := by decide +kernel
theorem dX9_task_62 : decode cX9_task 62 = .ok (.iaload, 1) := by decide +kernel
theorem dX9_task_63 : decode cX9_task 63 = .ok (.iastore, 1) := by decide +kernel
theorem dX9_task_64 : decode cX9_task 64 = .ok (.aload_n 0, 1) := by decide +kernel
theorem dX9_task_65 : decode cX9_task 65 = .ok (.getfield 22, 3) := by decide +kernel
theorem dX9_task_68 : decode cX9_task 68 = .ok (.iload_n 1, 1) := by decide +kernel
theorem dX9_task_69 : decode cX9_task 69 = .ok (.aload_n 0, 1) := by decide +kernel
theorem dX9_task_70 : decode cX9_task 70 = .ok (.getfield 80, 3) := by decide +kernel
theorem dX9_task_73 : decode cX9_task 73 = .ok (.iload_n 1, 1) := by decide +kernel
theorem dX9_task_74 : decode cX9_task 74 = .ok (.iaload, 1) := by decide +kernel
theorem dX9_task_75 : decode cX9_task 75 = .ok (.iastore, 1) := by decide +kernel
theorem dX9_task_76 : decode cX9_task 76 = .ok (.iinc 1 1, 3) := by decide +kernel
theorem dX9_task_79 : decode cX9_task 79 = .ok (.goto (-59), 3) := by decide +kernel
theorem dX9_task_82 : decode cX9_task 82 = .ok (.aload_n 0, 1) := by decide +kernel
theorem dX9_task_83 : decode cX9_task 83 = .ok (.iconst 0, 1) := by decide +kernel
theorem dX9_task_84 : decode cX9_task 84 = .ok (.putfield 115, 3) := by decide +kernel
theorem dX9_task_87 : decode cX9_task 87 = .ok (.aload_n 0, 1) := by decide +kernel
theorem dX9_task_88 : decode cX9_task 88 = .ok (.iconst 0, 1) := by decide +kernel
theorem dX9_task_89 : decode cX9_task 89 = .ok (.putfield 118, 3) := by decide +kernel
theorem dX9_task_92 : decode cX9_task 92 = .ok (.aload_n 0, 1) := by decide +kernel
theorem dX9_task_93 : decode cX9_task 93 = .ok (.iconst 0, 1) := by decide +kernel
theorem dX9_task_94 : decode cX9_task 94 = .ok (.putfield 97, 3) := by decide +kernel
theorem dX9_task_97 : decode cX9_task 97 = .ok (.aload_n 0, 1) := by decide +kernel
theorem dX9_task_98 : decode cX9_task 98 = .ok (.iconst 0, 1) := by decide +kernel
theorem dX9_task_99 : decode cX9_task 99 = .ok (.putfield 121, 3) := by decide +kernel
theorem dX9_task_102 : decode cX9_task 102 = .ok (.aload_n 0, 1) := by decide +kernel
theorem dX9_task_103 : decode cX9_task 103 = .ok (.iconst 0, 1) := by decide +kernel
theorem dX9_task_104 : decode cX9_task 104 = .ok (.putfield 125, 3) := by decide +kernel
theorem dX9_task_107 : decode cX9_task 107 = .ok (.aload_n 0, 1) := by decide +kernel
theorem dX9_task_108 : decode cX9_task 108 = .ok (.iconst 0, 1) := by decide +kernel
theorem dX9_task_109 : decode cX9_task 109 = .ok (.putfield 128, 3) := by decide +kernel
theorem dX9_task_112 : decode cX9_task 112 = .ok (.aload_n 0, 1) := by decide +kernel
theorem dX9_task_113 : decode cX9_task 113 = .ok (.getfield 112, 3) := by decide +kernel
theorem dX9_task_116 : decode cX9_task 116 = .ok (.ireturn, 1) := by decide +kernel
theorem dX9_step_0 : decode cX9_step 0 = .ok (.iload_n 1, 1) := by decide +kernel
theorem dX9_step_1 : decode cX9_step 1 = .ok (.iconst 0, 1) := by decide +kernel
theorem dX9_step_2 : decode cX9_step 2 = .ok (.aload_n 0, 1) := by decide +kernel
theorem dX9_step_3 : decode cX9_step 3 = .ok (.getfield 112, 3) := by decide +kernel
theorem dX9_step_6 : decode cX9_step 6 = .ok (.iconst 1, 1) := by decide +kernel
theorem dX9_step_7 : decode cX9_step 7 = .ok (.isub, 1) := by decide +kernel
theorem dX9_step_8 : decode cX9_step 8 = .ok (.invokestatic 93, 3) := by decide +kernel
theorem dX9_step_11 : decode cX9_step 11 = .ok (.ifCond .ne 5, 3) := by decide +kernel
theorem dX9_step_14 : decode cX9_step 14 = .ok (.iconst (-1), 1) := by decide +kernel
theorem dX9_step_15 : decode cX9_step 15 = .ok (.ireturn, 1) := by decide +kernel
theorem dX9_step_16 : decode cX9_step 16 = .ok (.iload_n 2, 1) := by decide +kernel
theorem dX9_step_17 : decode cX9_step 17 = .ok (.tableswitch 59 0 3 #[31, 38, 45, 52], 31) := by decide +kernel
theorem dX9_step_48 : decode cX9_step 48 = .ok (.aload_n 0, 1) := by decide +kernel
theorem dX9_step_49 : decode cX9_step 49 = .ok (.getfield 13, 3) := by decide +kernel
theorem dX9_step_52 : decode cX9_step 52 = .ok (.iload_n 1, 1) := by decide +kernel
theorem dX9_step_53 : decode cX9_step 53 = .ok (.iaload, 1) := by decide +kernel
theorem dX9_step_54 : decode cX9_step 54 = .ok (.ireturn, 1) := by decide +kernel
theorem dX9_step_55 : decode cX9_step 55 = .ok (.aload_n 0, 1) := by decide +kernel
theorem dX9_step_56 : decode cX9_step 56 = .ok (.getfield 16, 3) := by decide +kernel
theorem dX9_step_59 : decode cX9_step 59 = .ok (.iload_n 1, 1) := by decide +kernel
theorem dX9_step_60 : decode cX9_step 60 = .ok (.iaload, 1) := by decide +kernel
theorem dX9_step_61 : decode cX9_step 61 = .ok (.ireturn, 1) := by decide +kernel
theorem dX9_step_62 : decode cX9_step 62 = .ok (.aload_n 0, 1) := by decide +kernel
theorem dX9_step_63 : decode cX9_step 63 = .ok (.getfield 19, 3) := by decide +kernel
theorem dX9_step_66 : decode cX9_step 66 = .ok (.iload_n 1, 1) := by decide +kernel
theorem dX9_step_67 : decode cX9_step 67 = .ok (.iaload, 1) := by decide +kernel
theorem dX9_step_68 : decode cX9_step 68 = .ok (.ireturn, 1) := by decide +kernel
theorem dX9_step_69 : decode cX9_step 69 = .ok (.aload_n 0, 1) := by decide +kernel
theorem dX9_step_70 : decode cX9_step 70 = .ok (.getfield 22, 3) := by decide +kernel
theorem dX9_step_73 : decode cX9_step 73 = .ok (.iload_n 1, 1) := by decide +kernel
theorem dX9_step_74 : decode cX9_step 74 = .ok (.iaload, 1) := by decide +kernel
theorem dX9_step_75 : decode cX9_step 75 = .ok (.ireturn, 1) := by decide +kernel
theorem dX9_step_76 : decode cX9_step 76 = .ok (.bipush (-2), 2) := by decide +kernel
theorem dX9_step_78 : decode cX9_step 78 = .ok (.ireturn, 1) := by decide +kernel
theorem dX9_itemOf_0 : decode cX9_itemOf 0 = .ok (.iconst 0, 1) := by decide +kernel
theorem dX9_itemOf_1 : decode cX9_itemOf 1 = .ok (.istore_n 3, 1) := by decide +kernel
theorem dX9_itemOf_2 : decode cX9_itemOf 2 = .ok (.iload_n 3, 1) := by decide +kernel
theorem dX9_itemOf_3 : decode cX9_itemOf 3 = .ok (.aload_n 0, 1) := by decide +kernel
theorem dX9_itemOf_4 : decode cX9_itemOf 4 = .ok (.getfield 115, 3) := by decide +kernel
theorem dX9_itemOf_7 : decode cX9_itemOf 7 = .ok (.if_icmp .ge 31, 3) := by decide +kernel
theorem dX9_itemOf_10 : decode cX9_itemOf 10 = .ok (.aload_n 0, 1) := by decide +kernel
theorem dX9_itemOf_11 : decode cX9_itemOf 11 = .ok (.getfield 25, 3) := by decide +kernel
theorem dX9_itemOf_14 : decode cX9_itemOf 14 = .ok (.iload_n 3, 1) := by decide +kernel
theorem dX9_itemOf_15 : decode cX9_itemOf 15 = .ok (.iaload, 1) := by decide +kernel
theorem dX9_itemOf_16 : decode cX9_itemOf 16 = .ok (.iload_n 1, 1) := by decide +kernel
theorem dX9_itemOf_17 : decode cX9_itemOf 17 = .ok (.if_icmp .ne 15, 3) := by decide +kernel
theorem dX9_itemOf_20 : decode cX9_itemOf 20 = .ok (.aload_n 0, 1) := by decide +kernel
theorem dX9_itemOf_21 : decode cX9_itemOf 21 = .ok (.getfield 28, 3) := by decide +kernel
theorem dX9_itemOf_24 : decode cX9_itemOf 24 = .ok (.iload_n 3, 1) := by decide +kernel
theorem dX9_itemOf_25 : decode cX9_itemOf 25 = .ok (.iaload, 1) := by decide +kernel
theorem dX9_itemOf_26 : decode cX9_itemOf 26 = .ok (.iload_n 2, 1) := by decide +kernel
theorem dX9_itemOf_27 : decode cX9_itemOf 27 = .ok (.if_icmp .ne 5, 3) := by decide +kernel
theorem dX9_itemOf_30 : decode cX9_itemOf 30 = .ok (.iload_n 3, 1) := by decide +kernel
theorem dX9_itemOf_31 : decode cX9_itemOf 31 = .ok (.ireturn, 1) := by decide +kernel
theorem dX9_itemOf_32 : decode cX9_itemOf 32 = .ok (.iinc 3 1, 3) := by decide +kernel
theorem dX9_itemOf_35 : decode cX9_itemOf 35 = .ok (.goto (-33), 3) := by decide +kernel
theorem dX9_itemOf_38 : decode cX9_itemOf 38 = .ok (.bipush (-6), 2) := by decide +kernel
theorem dX9_itemOf_40 : decode cX9_itemOf 40 = .ok (.ireturn, 1) := by decide +kernel
theorem dX9_item_0 : decode cX9_item 0 = .ok (.iload_n 1, 1) := by decide +kernel
theorem dX9_item_1 : decode cX9_item 1 = .ok (.iconst 0, 1) := by decide +kernel
theorem dX9_item_2 : decode cX9_item 2 = .ok (.aload_n 0, 1) := by decide +kernel
theorem dX9_item_3 : decode cX9_item 3 = .ok (.getfield 112, 3) := by decide +kernel
theorem dX9_item_6 : decode cX9_item 6 = .ok (.iconst 1, 1) := by decide +kernel
theorem dX9_item_7 : decode cX9_item 7 = .ok (.isub, 1) := by decide +kernel
theorem dX9_item_8 : decode cX9_item 8 = .ok (.invokestatic 93, 3) := by decide +kernel
theorem dX9_item_11 : decode cX9_item 11 = .ok (.ifCond .ne 5, 3) := by decide +kernel
theorem dX9_item_14 : decode cX9_item 14 = .ok (.iconst (-1), 1) := by decide +kernel
