theorem dX3_init_0 : decode cX3_init 0 = .ok (.aload_n 0, 1) := by decide +kernel
theorem dX3_init_1 : decode cX3_init 1 = .ok (.invokespecial 3, 3) := by decide +kernel
theorem dX3_init_4 : decode cX3_init 4 = .ok (.aload_n 0, 1) := by decide +kernel
theorem dX3_init_5 : decode cX3_init 5 = .ok (.lconst 1, 1) := by decide +kernel
theorem dX3_init_6 : decode cX3_init 6 = .ok (.putfield 9, 3) := by decide +kernel
theorem dX3_init_9 : decode cX3_init 9 = .ok (.aload_n 0, 1) := by decide +kernel
theorem dX3_init_10 : decode cX3_init 10 = .ok (.bipush 25, 2) := by decide +kernel
theorem dX3_init_12 : decode cX3_init 12 = .ok (.newarray .long, 2) := by decide +kernel
theorem dX3_init_14 : decode cX3_init 14 = .ok (.putfield 15, 3) := by decide +kernel
theorem dX3_init_17 : decode cX3_init 17 = .ok (.return_, 1) := by decide +kernel
theorem dX3_part_0 : decode cX3_part 0 = .ok (.iload_n 1, 1) := by decide +kernel
theorem dX3_part_1 : decode cX3_part 1 = .ok (.ifCond .ne 10, 3) := by decide +kernel
theorem dX3_part_4 : decode cX3_part 4 = .ok (.aload_n 0, 1) := by decide +kernel
theorem dX3_part_5 : decode cX3_part 5 = .ok (.getfield 19, 3) := by decide +kernel
theorem dX3_part_8 : decode cX3_part 8 = .ok (.goto 7, 3) := by decide +kernel
theorem dX3_part_11 : decode cX3_part 11 = .ok (.aload_n 0, 1) := by decide +kernel
theorem dX3_part_12 : decode cX3_part 12 = .ok (.getfield 9, 3) := by decide +kernel
theorem dX3_part_15 : decode cX3_part 15 = .ok (.lreturn, 1) := by decide +kernel
theorem dX3_begin_0 : decode cX3_begin 0 = .ok (.aload_n 0, 1) := by decide +kernel
theorem dX3_begin_1 : decode cX3_begin 1 = .ok (.iconst 0, 1) := by decide +kernel
theorem dX3_begin_2 : decode cX3_begin 2 = .ok (.putfield 22, 3) := by decide +kernel
theorem dX3_begin_5 : decode cX3_begin 5 = .ok (.aload_n 0, 1) := by decide +kernel
theorem dX3_begin_6 : decode cX3_begin 6 = .ok (.getfield 15, 3) := by decide +kernel
theorem dX3_begin_9 : decode cX3_begin 9 = .ok (.iconst 0, 1) := by decide +kernel
theorem dX3_begin_10 : decode cX3_begin 10 = .ok (.lconst 1, 1) := by decide +kernel
theorem dX3_begin_11 : decode cX3_begin 11 = .ok (.lastore, 1) := by decide +kernel
theorem dX3_begin_12 : decode cX3_begin 12 = .ok (.return_, 1) := by decide +kernel
theorem dX3_draw_0 : decode cX3_draw 0 = .ok (.aload_n 0, 1) := by decide +kernel
theorem dX3_draw_1 : decode cX3_draw 1 = .ok (.getfield 22, 3) := by decide +kernel
theorem dX3_draw_4 : decode cX3_draw 4 = .ok (.bipush 24, 2) := by decide +kernel
theorem dX3_draw_6 : decode cX3_draw 6 = .ok (.if_icmp .lt 4, 3) := by decide +kernel
theorem dX3_draw_9 : decode cX3_draw 9 = .ok (.return_, 1) := by decide +kernel
theorem dX3_draw_10 : decode cX3_draw 10 = .ok (.aload_n 0, 1) := by decide +kernel
theorem dX3_draw_11 : decode cX3_draw 11 = .ok (.dup, 1) := by decide +kernel
theorem dX3_draw_12 : decode cX3_draw 12 = .ok (.getfield 22, 3) := by decide +kernel
theorem dX3_draw_15 : decode cX3_draw 15 = .ok (.iconst 1, 1) := by decide +kernel
theorem dX3_draw_16 : decode cX3_draw 16 = .ok (.iadd, 1) := by decide +kernel
theorem dX3_draw_17 : decode cX3_draw 17 = .ok (.putfield 22, 3) := by decide +kernel
theorem dX3_draw_20 : decode cX3_draw 20 = .ok (.aload_n 0, 1) := by decide +kernel
theorem dX3_draw_21 : decode cX3_draw 21 = .ok (.getfield 15, 3) := by decide +kernel
theorem dX3_draw_24 : decode cX3_draw 24 = .ok (.aload_n 0, 1) := by decide +kernel
theorem dX3_draw_25 : decode cX3_draw 25 = .ok (.getfield 22, 3) := by decide +kernel
theorem dX3_draw_28 : decode cX3_draw 28 = .ok (.aload_n 0, 1) := by decide +kernel
theorem dX3_draw_29 : decode cX3_draw 29 = .ok (.getfield 15, 3) := by decide +kernel
theorem dX3_draw_32 : decode cX3_draw 32 = .ok (.aload_n 0, 1) := by decide +kernel
theorem dX3_draw_33 : decode cX3_draw 33 = .ok (.getfield 22, 3) := by decide +kernel
theorem dX3_draw_36 : decode cX3_draw 36 = .ok (.iconst 1, 1) := by decide +kernel
theorem dX3_draw_37 : decode cX3_draw 37 = .ok (.isub, 1) := by decide +kernel
theorem dX3_draw_38 : decode cX3_draw 38 = .ok (.laload, 1) := by decide +kernel
theorem dX3_draw_39 : decode cX3_draw 39 = .ok (.lastore, 1) := by decide +kernel
theorem dX3_draw_40 : decode cX3_draw 40 = .ok (.aload_n 0, 1) := by decide +kernel
theorem dX3_draw_41 : decode cX3_draw 41 = .ok (.getfield 22, 3) := by decide +kernel
theorem dX3_draw_44 : decode cX3_draw 44 = .ok (.iconst 1, 1) := by decide +kernel
theorem dX3_draw_45 : decode cX3_draw 45 = .ok (.isub, 1) := by decide +kernel
theorem dX3_draw_46 : decode cX3_draw 46 = .ok (.istore_n 2, 1) := by decide +kernel
theorem dX3_draw_47 : decode cX3_draw 47 = .ok (.iload_n 2, 1) := by decide +kernel
theorem dX3_draw_48 : decode cX3_draw 48 = .ok (.ifCond .le 35, 3) := by decide +kernel
theorem dX3_draw_51 : decode cX3_draw 51 = .ok (.aload_n 0, 1) := by decide +kernel
theorem dX3_draw_52 : decode cX3_draw 52 = .ok (.getfield 15, 3) := by decide +kernel
theorem dX3_draw_55 : decode cX3_draw 55 = .ok (.iload_n 2, 1) := by decide +kernel
theorem dX3_draw_56 : decode cX3_draw 56 = .ok (.aload_n 0, 1) := by decide +kernel
theorem dX3_draw_57 : decode cX3_draw 57 = .ok (.getfield 15, 3) := by decide +kernel
theorem dX3_draw_60 : decode cX3_draw 60 = .ok (.iload_n 2, 1) := by decide +kernel
theorem dX3_draw_61 : decode cX3_draw 61 = .ok (.laload, 1) := by decide +kernel
theorem dX3_draw_62 : decode cX3_draw 62 = .ok (.iload_n 1, 1) := by decide +kernel
theorem dX3_draw_63 : decode cX3_draw 63 = .ok (.iconst 1, 1) := by decide +kernel
theorem dX3_draw_64 : decode cX3_draw 64 = .ok (.isub, 1) := by decide +kernel
theorem dX3_draw_65 : decode cX3_draw 65 = .ok (.i2l, 1) := by decide +kernel
theorem dX3_draw_66 : decode cX3_draw 66 = .ok (.lmul, 1) := by decide +kernel
theorem dX3_draw_67 : decode cX3_draw 67 = .ok (.aload_n 0, 1) := by decide +kernel
theorem dX3_draw_68 : decode cX3_draw 68 = .ok (.getfield 15, 3) := by decide +kernel
theorem dX3_draw_71 : decode cX3_draw 71 = .ok (.iload_n 2, 1) := by decide +kernel
theorem dX3_draw_72 : decode cX3_draw 72 = .ok (.iconst 1, 1) := by decide +kernel
theorem dX3_draw_73 : decode cX3_draw 73 = .ok (.isub, 1) := by decide +kernel
theorem dX3_draw_74 : decode cX3_draw 74 = .ok (.laload, 1) := by decide +kernel
theorem dX3_draw_75 : decode cX3_draw 75 = .ok (.ladd, 1) := by decide +kernel
theorem dX3_draw_76 : decode cX3_draw 76 = .ok (.lastore, 1) := by decide +kernel
theorem dX3_draw_77 : decode cX3_draw 77 = .ok (.iinc 2 (-1), 3) := by decide +kernel
theorem dX3_draw_80 : decode cX3_draw 80 = .ok (.goto (-33), 3) := by decide +kernel
theorem dX3_draw_83 : decode cX3_draw 83 = .ok (.aload_n 0, 1) := by decide +kernel
theorem dX3_draw_84 : decode cX3_draw 84 = .ok (.getfield 15, 3) := by decide +kernel
theorem dX3_draw_87 : decode cX3_draw 87 = .ok (.iconst 0, 1) := by decide +kernel
theorem dX3_draw_88 : decode cX3_draw 88 = .ok (.dup2, 1) := by decide +kernel
theorem dX3_draw_89 : decode cX3_draw 89 = .ok (.laload, 1) := by decide +kernel
theorem dX3_draw_90 : decode cX3_draw 90 = .ok (.iload_n 1, 1) := by decide +kernel
theorem dX3_draw_91 : decode cX3_draw 91 = .ok (.iconst 1, 1) := by decide +kernel
theorem dX3_draw_92 : decode cX3_draw 92 = .ok (.isub, 1) := by decide +kernel
theorem dX3_draw_93 : decode cX3_draw 93 = .ok (.i2l, 1) := by decide +kernel
theorem dX3_draw_94 : decode cX3_draw 94 = .ok (.lmul, 1) := by decide +kernel
theorem dX3_draw_95 : decode cX3_draw 95 = .ok (.lastore, 1) := by decide +kernel
theorem dX3_draw_96 : decode cX3_draw 96 = .ok (.return_, 1) := by decide +kernel
theorem dX3_hitAtLeast_0 : decode cX3_hitAtLeast 0 = .ok (.lconst 0, 1) := by decide +kernel
theorem dX3_hitAtLeast_1 : decode cX3_hitAtLeast 1 = .ok (.lstore_n 2, 1) := by decide +kernel
theorem dX3_hitAtLeast_2 : decode cX3_hitAtLeast 2 = .ok (.lconst 0, 1) := by decide +kernel
theorem dX3_hitAtLeast_3 : decode cX3_hitAtLeast 3 = .ok (.lstore 4, 2) := by decide +kernel
theorem dX3_hitAtLeast_5 : decode cX3_hitAtLeast 5 = .ok (.iconst 0, 1) := by decide +kernel
theorem dX3_hitAtLeast_6 : decode cX3_hitAtLeast 6 = .ok (.istore 6, 2) := by decide +kernel
theorem dX3_hitAtLeast_8 : decode cX3_hitAtLeast 8 = .ok (.iload 6, 2) := by decide +kernel
theorem dX3_hitAtLeast_10 : decode cX3_hitAtLeast 10 = .ok (.aload_n 0, 1) := by decide +kernel
theorem dX3_hitAtLeast_11 : decode cX3_hitAtLeast 11 = .ok (.getfield 22, 3) := by decide +kernel
theorem dX3_hitAtLeast_14 : decode cX3_hitAtLeast 14 = .ok (.if_icmp .gt 41, 3) := by decide +kernel
theorem dX3_hitAtLeast_17 : decode cX3_hitAtLeast 17 = .ok (.lload 4, 2) := by decide +kernel
theorem dX3_hitAtLeast_19 : decode cX3_hitAtLeast 19 = .ok (.aload_n 0, 1) := by decide +kernel
theorem dX3_hitAtLeast_20 : decode cX3_hitAtLeast 20 = .ok (.getfield 15, 3) := by decide +kernel
theorem dX3_hitAtLeast_23 : decode cX3_hitAtLeast 23 = .ok (.iload 6, 2) := by decide +kernel
theorem dX3_hitAtLeast_25 : decode cX3_hitAtLeast 25 = .ok (.laload, 1) := by decide +kernel
theorem dX3_hitAtLeast_26 : decode cX3_hitAtLeast 26 = .ok (.ladd, 1) := by decide +kernel
theorem dX3_hitAtLeast_27 : decode cX3_hitAtLeast 27 = .ok (.lstore 4, 2) := by decide +kernel
theorem dX3_hitAtLeast_29 : decode cX3_hitAtLeast 29 = .ok (.lload_n 2, 1) := by decide +kernel
theorem dX3_hitAtLeast_30 : decode cX3_hitAtLeast 30 = .ok (.iload 6, 2) := by decide +kernel
theorem dX3_hitAtLeast_32 : decode cX3_hitAtLeast 32 = .ok (.iload_n 1, 1) := by decide +kernel
theorem dX3_hitAtLeast_33 : decode cX3_hitAtLeast 33 = .ok (.if_icmp .lt 13, 3) := by decide +kernel
theorem dX3_hitAtLeast_36 : decode cX3_hitAtLeast 36 = .ok (.aload_n 0, 1) := by decide +kernel
theorem dX3_hitAtLeast_37 : decode cX3_hitAtLeast 37 = .ok (.getfield 15, 3) := by decide +kernel
theorem dX3_hitAtLeast_40 : decode cX3_hitAtLeast 40 = .ok (.iload 6, 2) := by decide +kernel
theorem dX3_hitAtLeast_42 : decode cX3_hitAtLeast 42 = .ok (.laload, 1) := by decide +kernel
theorem dX3_hitAtLeast_43 : decode cX3_hitAtLeast 43 = .ok (.goto 4, 3) := by decide +kernel
theorem dX3_hitAtLeast_46 : decode cX3_hitAtLeast 46 = .ok (.lconst 0, 1) := by decide +kernel
theorem dX3_hitAtLeast_47 : decode cX3_hitAtLeast 47 = .ok (.ladd, 1) := by decide +kernel
theorem dX3_hitAtLeast_48 : decode cX3_hitAtLeast 48 = .ok (.lstore_n 2, 1) := by decide +kernel
theorem dX3_hitAtLeast_49 : decode cX3_hitAtLeast 49 = .ok (.iinc 6 1, 3) := by decide +kernel
theorem dX3_hitAtLeast_52 : decode cX3_hitAtLeast 52 = .ok (.goto (-44), 3) := by decide +kernel
theorem dX3_hitAtLeast_55 : decode cX3_hitAtLeast 55 = .ok (.aload_n 0, 1) := by decide +kernel
theorem dX3_hitAtLeast_56 : decode cX3_hitAtLeast 56 = .ok (.lload_n 2, 1) := by decide +kernel
theorem dX3_hitAtLeast_57 : decode cX3_hitAtLeast 57 = .ok (.lload 4, 2) := by decide +kernel
theorem dX3_hitAtLeast_59 : decode cX3_hitAtLeast 59 = .ok (.invokevirtual 26, 3) := by decide +kernel
theorem dX3_hitAtLeast_62 : decode cX3_hitAtLeast 62 = .ok (.return_, 1) := by decide +kernel
theorem dX3_dealtAtLeast_0 : decode cX3_dealtAtLeast 0 = .ok (.lconst 0, 1) := by decide +kernel
theorem dX3_dealtAtLeast_1 : decode cX3_dealtAtLeast 1 = .ok (.lstore 5, 2) := by decide +kernel
theorem dX3_dealtAtLeast_3 : decode cX3_dealtAtLeast 3 = .ok (.iload 4, 2) := by decide +kernel
theorem dX3_dealtAtLeast_5 : decode cX3_dealtAtLeast 5 = .ok (.istore 7, 2) := by decide +kernel
theorem dX3_dealtAtLeast_7 : decode cX3_dealtAtLeast 7 = .ok (.iload 7, 2) := by decide +kernel
theorem dX3_dealtAtLeast_9 : decode cX3_dealtAtLeast 9 = .ok (.iload_n 3, 1) := by decide +kernel
theorem dX3_dealtAtLeast_10 : decode cX3_dealtAtLeast 10 = .ok (.if_icmp .gt 31, 3) := by decide +kernel
theorem dX3_dealtAtLeast_13 : decode cX3_dealtAtLeast 13 = .ok (.lload 5, 2) := by decide +kernel
theorem dX3_dealtAtLeast_15 : decode cX3_dealtAtLeast 15 = .ok (.iload_n 3, 1) := by decide +kernel
theorem dX3_dealtAtLeast_16 : decode cX3_dealtAtLeast 16 = .ok (.iload 7, 2) := by decide +kernel
theorem dX3_dealtAtLeast_18 : decode cX3_dealtAtLeast 18 = .ok (.invokestatic 30, 3) := by decide +kernel
theorem dX3_dealtAtLeast_21 : decode cX3_dealtAtLeast 21 = .ok (.iload_n 1, 1) := by decide +kernel
theorem dX3_dealtAtLeast_22 : decode cX3_dealtAtLeast 22 = .ok (.iload_n 3, 1) := by decide +kernel
theorem dX3_dealtAtLeast_23 : decode cX3_dealtAtLeast 23 = .ok (.isub, 1) := by decide +kernel
theorem dX3_dealtAtLeast_24 : decode cX3_dealtAtLeast 24 = .ok (.iload_n 2, 1) := by decide +kernel
theorem dX3_dealtAtLeast_25 : decode cX3_dealtAtLeast 25 = .ok (.iload 7, 2) := by decide +kernel
theorem dX3_dealtAtLeast_27 : decode cX3_dealtAtLeast 27 = .ok (.isub, 1) := by decide +kernel
theorem dX3_dealtAtLeast_28 : decode cX3_dealtAtLeast 28 = .ok (.invokestatic 30, 3) := by decide +kernel
theorem dX3_dealtAtLeast_31 : decode cX3_dealtAtLeast 31 = .ok (.lmul, 1) := by decide +kernel
theorem dX3_dealtAtLeast_32 : decode cX3_dealtAtLeast 32 = .ok (.ladd, 1) := by decide +kernel
theorem dX3_dealtAtLeast_33 : decode cX3_dealtAtLeast 33 = .ok (.lstore 5, 2) := by decide +kernel
theorem dX3_dealtAtLeast_35 : decode cX3_dealtAtLeast 35 = .ok (.iinc 7 1, 3) := by decide +kernel
theorem dX3_dealtAtLeast_38 : decode cX3_dealtAtLeast 38 = .ok (.goto (-31), 3) := by decide +kernel
theorem dX3_dealtAtLeast_41 : decode cX3_dealtAtLeast 41 = .ok (.aload_n 0, 1) := by decide +kernel
theorem dX3_dealtAtLeast_42 : decode cX3_dealtAtLeast 42 = .ok (.lload 5, 2) := by decide +kernel
theorem dX3_dealtAtLeast_44 : decode cX3_dealtAtLeast 44 = .ok (.iload_n 1, 1) := by decide +kernel
theorem dX3_dealtAtLeast_45 : decode cX3_dealtAtLeast 45 = .ok (.iload_n 2, 1) := by decide +kernel
theorem dX3_dealtAtLeast_46 : decode cX3_dealtAtLeast 46 = .ok (.invokestatic 30, 3) := by decide +kernel
theorem dX3_dealtAtLeast_49 : decode cX3_dealtAtLeast 49 = .ok (.invokevirtual 26, 3) := by decide +kernel
theorem dX3_dealtAtLeast_52 : decode cX3_dealtAtLeast 52 = .ok (.return_, 1) := by decide +kernel
theorem dX3_reduce_0 : decode cX3_reduce 0 = .ok (.lload_n 3, 1) := by decide +kernel
theorem dX3_reduce_1 : decode cX3_reduce 1 = .ok (.lstore 5, 2) := by decide +kernel
theorem dX3_reduce_3 : decode cX3_reduce 3 = .ok (.lload_n 1, 1) := by decide +kernel
theorem dX3_reduce_4 : decode cX3_reduce 4 = .ok (.lstore 7, 2) := by decide +kernel
theorem dX3_reduce_6 : decode cX3_reduce 6 = .ok (.iconst 0, 1) := by decide +kernel
theorem dX3_reduce_7 : decode cX3_reduce 7 = .ok (.istore 9, 2) := by decide +kernel
theorem dX3_reduce_9 : decode cX3_reduce 9 = .ok (.iload 9, 2) := by decide +kernel
theorem dX3_reduce_11 : decode cX3_reduce 11 = .ok (.sipush 200, 3) := by decide +kernel
theorem dX3_reduce_14 : decode cX3_reduce 14 = .ok (.if_icmp .ge 31, 3) := by decide +kernel
theorem dX3_reduce_17 : decode cX3_reduce 17 = .ok (.lload 7, 2) := by decide +kernel
theorem dX3_reduce_19 : decode cX3_reduce 19 = .ok (.lconst 0, 1) := by decide +kernel
theorem dX3_reduce_20 : decode cX3_reduce 20 = .ok (.lcmp, 1) := by decide +kernel
theorem dX3_reduce_21 : decode cX3_reduce 21 = .ok (.ifCond .eq 24, 3) := by decide +kernel
theorem dX3_reduce_24 : decode cX3_reduce 24 = .ok (.lload 5, 2) := by decide +kernel
theorem dX3_reduce_26 : decode cX3_reduce 26 = .ok (.lload 7, 2) := by decide +kernel
theorem dX3_reduce_28 : decode cX3_reduce 28 = .ok (.lrem, 1) := by decide +kernel
theorem dX3_reduce_29 : decode cX3_reduce 29 = .ok (.lstore 10, 2) := by decide +kernel
theorem dX3_reduce_31 : decode cX3_reduce 31 = .ok (.lload 7, 2) := by decide +kernel
theorem dX3_reduce_33 : decode cX3_reduce 33 = .ok (.lstore 5, 2) := by decide +kernel
theorem dX3_reduce_35 : decode cX3_reduce 35 = .ok (.lload 10, 2) := by decide +kernel
theorem dX3_reduce_37 : decode cX3_reduce 37 = .ok (.lstore 7, 2) := by decide +kernel
theorem dX3_reduce_39 : decode cX3_reduce 39 = .ok (.iinc 9 1, 3) := by decide +kernel
theorem dX3_reduce_42 : decode cX3_reduce 42 = .ok (.goto (-33), 3) := by decide +kernel
theorem dX3_reduce_45 : decode cX3_reduce 45 = .ok (.lload 5, 2) := by decide +kernel
theorem dX3_reduce_47 : decode cX3_reduce 47 = .ok (.lconst 0, 1) := by decide +kernel
theorem dX3_reduce_48 : decode cX3_reduce 48 = .ok (.lcmp, 1) := by decide +kernel
theorem dX3_reduce_49 : decode cX3_reduce 49 = .ok (.ifCond .le 19, 3) := by decide +kernel
theorem dX3_reduce_52 : decode cX3_reduce 52 = .ok (.aload_n 0, 1) := by decide +kernel
theorem dX3_reduce_53 : decode cX3_reduce 53 = .ok (.lload_n 1, 1) := by decide +kernel
theorem dX3_reduce_54 : decode cX3_reduce 54 = .ok (.lload 5, 2) := by decide +kernel
theorem dX3_reduce_56 : decode cX3_reduce 56 = .ok (.ldiv, 1) := by decide +kernel
theorem dX3_reduce_57 : decode cX3_reduce 57 = .ok (.putfield 19, 3) := by decide +kernel
theorem dX3_reduce_60 : decode cX3_reduce 60 = .ok (.aload_n 0, 1) := by decide +kernel
theorem dX3_reduce_61 : decode cX3_reduce 61 = .ok (.lload_n 3, 1) := by decide +kernel
theorem dX3_reduce_62 : decode cX3_reduce 62 = .ok (.lload 5, 2) := by decide +kernel
theorem dX3_reduce_64 : decode cX3_reduce 64 = .ok (.ldiv, 1) := by decide +kernel
theorem dX3_reduce_65 : decode cX3_reduce 65 = .ok (.putfield 9, 3) := by decide +kernel
theorem dX3_reduce_68 : decode cX3_reduce 68 = .ok (.return_, 1) := by decide +kernel
theorem dX3_choose_0 : decode cX3_choose 0 = .ok (.iload_n 1, 1) := by decide +kernel
theorem dX3_choose_1 : decode cX3_choose 1 = .ok (.ifCond .lt 8, 3) := by decide +kernel
theorem dX3_choose_4 : decode cX3_choose 4 = .ok (.iload_n 1, 1) := by decide +kernel
theorem dX3_choose_5 : decode cX3_choose 5 = .ok (.iload_n 0, 1) := by decide +kernel
theorem dX3_choose_6 : decode cX3_choose 6 = .ok (.if_icmp .le 5, 3) := by decide +kernel
theorem dX3_choose_9 : decode cX3_choose 9 = .ok (.lconst 0, 1) := by decide +kernel
theorem dX3_choose_10 : decode cX3_choose 10 = .ok (.lreturn, 1) := by decide +kernel
theorem dX3_choose_11 : decode cX3_choose 11 = .ok (.lconst 1, 1) := by decide +kernel
theorem dX3_choose_12 : decode cX3_choose 12 = .ok (.lstore_n 2, 1) := by decide +kernel
theorem dX3_choose_13 : decode cX3_choose 13 = .ok (.iconst 1, 1) := by decide +kernel
theorem dX3_choose_14 : decode cX3_choose 14 = .ok (.istore 4, 2) := by decide +kernel
theorem dX3_choose_16 : decode cX3_choose 16 = .ok (.iload 4, 2) := by decide +kernel
theorem dX3_choose_18 : decode cX3_choose 18 = .ok (.iload_n 1, 1) := by decide +kernel
theorem dX3_choose_19 : decode cX3_choose 19 = .ok (.if_icmp .gt 23, 3) := by decide +kernel
theorem dX3_choose_22 : decode cX3_choose 22 = .ok (.lload_n 2, 1) := by decide +kernel
theorem dX3_choose_23 : decode cX3_choose 23 = .ok (.iload_n 0, 1) := by decide +kernel
theorem dX3_choose_24 : decode cX3_choose 24 = .ok (.iload_n 1, 1) := by decide +kernel
theorem dX3_choose_25 : decode cX3_choose 25 = .ok (.isub, 1) := by decide +kernel
theorem dX3_choose_26 : decode cX3_choose 26 = .ok (.iload 4, 2) := by decide +kernel
theorem dX3_choose_28 : decode cX3_choose 28 = .ok (.iadd, 1) := by decide +kernel
theorem dX3_choose_29 : decode cX3_choose 29 = .ok (.i2l, 1) := by decide +kernel
theorem dX3_choose_30 : decode cX3_choose 30 = .ok (.lmul, 1) := by decide +kernel
theorem dX3_choose_31 : decode cX3_choose 31 = .ok (.iload 4, 2) := by decide +kernel
theorem dX3_choose_33 : decode cX3_choose 33 = .ok (.i2l, 1) := by decide +kernel
theorem dX3_choose_34 : decode cX3_choose 34 = .ok (.ldiv, 1) := by decide +kernel
theorem dX3_choose_35 : decode cX3_choose 35 = .ok (.lstore_n 2, 1) := by decide +kernel
theorem dX3_choose_36 : decode cX3_choose 36 = .ok (.iinc 4 1, 3) := by decide +kernel
theorem dX3_choose_39 : decode cX3_choose 39 = .ok (.goto (-23), 3) := by decide +kernel
theorem dX3_choose_42 : decode cX3_choose 42 = .ok (.lload_n 2, 1) := by decide +kernel
theorem dX3_choose_43 : decode cX3_choose 43 = .ok (.lreturn, 1) := by decide +kernel
theorem dX3_power_0 : decode cX3_power 0 = .ok (.lconst 1, 1) := by decide +kernel
theorem dX3_power_1 : decode cX3_power 1 = .ok (.lstore_n 2, 1) := by decide +kernel
theorem dX3_power_2 : decode cX3_power 2 = .ok (.iconst 0, 1) := by decide +kernel
theorem dX3_power_3 : decode cX3_power 3 = .ok (.istore 4, 2) := by decide +kernel
theorem dX3_power_5 : decode cX3_power 5 = .ok (.iload 4, 2) := by decide +kernel
theorem dX3_power_7 : decode cX3_power 7 = .ok (.iload_n 1, 1) := by decide +kernel
theorem dX3_power_8 : decode cX3_power 8 = .ok (.if_icmp .ge 14, 3) := by decide +kernel
theorem dX3_power_11 : decode cX3_power 11 = .ok (.lload_n 2, 1) := by decide +kernel
theorem dX3_power_12 : decode cX3_power 12 = .ok (.iload_n 0, 1) := by decide +kernel
theorem dX3_power_13 : decode cX3_power 13 = .ok (.i2l, 1) := by decide +kernel
theorem dX3_power_14 : decode cX3_power 14 = .ok (.lmul, 1) := by decide +kernel
theorem dX3_power_15 : decode cX3_power 15 = .ok (.lstore_n 2, 1) := by decide +kernel
theorem dX3_power_16 : decode cX3_power 16 = .ok (.iinc 4 1, 3) := by decide +kernel
theorem dX3_power_19 : decode cX3_power 19 = .ok (.goto (-14), 3) := by decide +kernel
theorem dX3_power_22 : decode cX3_power 22 = .ok (.lload_n 2, 1) := by decide +kernel
theorem dX3_power_23 : decode cX3_power 23 = .ok (.lreturn, 1) := by decide +kernel
theorem dX3_greaterPart_0 : decode cX3_greaterPart 0 = .ok (.lconst 0, 1) := by decide +kernel
theorem dX3_greaterPart_1 : decode cX3_greaterPart 1 = .ok (.lstore_n 2, 1) := by decide +kernel
theorem dX3_greaterPart_2 : decode cX3_greaterPart 2 = .ok (.iload_n 1, 1) := by decide +kernel
theorem dX3_greaterPart_3 : decode cX3_greaterPart 3 = .ok (.iconst 2, 1) := by decide +kernel
theorem dX3_greaterPart_4 : decode cX3_greaterPart 4 = .ok (.idiv, 1) := by decide +kernel
theorem dX3_greaterPart_5 : decode cX3_greaterPart 5 = .ok (.iconst 1, 1) := by decide +kernel
theorem dX3_greaterPart_6 : decode cX3_greaterPart 6 = .ok (.iadd, 1) := by decide +kernel
theorem dX3_greaterPart_7 : decode cX3_greaterPart 7 = .ok (.istore 4, 2) := by decide +kernel
theorem dX3_greaterPart_9 : decode cX3_greaterPart 9 = .ok (.iload 4, 2) := by decide +kernel
theorem dX3_greaterPart_11 : decode cX3_greaterPart 11 = .ok (.iload_n 1, 1) := by decide +kernel
theorem dX3_greaterPart_12 : decode cX3_greaterPart 12 = .ok (.if_icmp .gt 37, 3) := by decide +kernel
theorem dX3_greaterPart_15 : decode cX3_greaterPart 15 = .ok (.lload_n 2, 1) := by decide +kernel
theorem dX3_greaterPart_16 : decode cX3_greaterPart 16 = .ok (.iload_n 1, 1) := by decide +kernel
theorem dX3_greaterPart_17 : decode cX3_greaterPart 17 = .ok (.iload 4, 2) := by decide +kernel
theorem dX3_greaterPart_19 : decode cX3_greaterPart 19 = .ok (.invokestatic 30, 3) := by decide +kernel
theorem dX3_greaterPart_22 : decode cX3_greaterPart 22 = .ok (.iload_n 0, 1) := by decide +kernel
theorem dX3_greaterPart_23 : decode cX3_greaterPart 23 = .ok (.iload 4, 2) := by decide +kernel
theorem dX3_greaterPart_25 : decode cX3_greaterPart 25 = .ok (.invokestatic 34, 3) := by decide +kernel
theorem dX3_greaterPart_28 : decode cX3_greaterPart 28 = .ok (.lmul, 1) := by decide +kernel
theorem dX3_greaterPart_29 : decode cX3_greaterPart 29 = .ok (.bipush 100, 2) := by decide +kernel
theorem dX3_greaterPart_31 : decode cX3_greaterPart 31 = .ok (.iload_n 0, 1) := by decide +kernel
theorem dX3_greaterPart_32 : decode cX3_greaterPart 32 = .ok (.isub, 1) := by decide +kernel
theorem dX3_greaterPart_33 : decode cX3_greaterPart 33 = .ok (.iload_n 1, 1) := by decide +kernel
theorem dX3_greaterPart_34 : decode cX3_greaterPart 34 = .ok (.iload 4, 2) := by decide +kernel
theorem dX3_greaterPart_36 : decode cX3_greaterPart 36 = .ok (.isub, 1) := by decide +kernel
theorem dX3_greaterPart_37 : decode cX3_greaterPart 37 = .ok (.invokestatic 34, 3) := by decide +kernel
theorem dX3_greaterPart_40 : decode cX3_greaterPart 40 = .ok (.lmul, 1) := by decide +kernel
theorem dX3_greaterPart_41 : decode cX3_greaterPart 41 = .ok (.ladd, 1) := by decide +kernel
theorem dX3_greaterPart_42 : decode cX3_greaterPart 42 = .ok (.lstore_n 2, 1) := by decide +kernel
theorem dX3_greaterPart_43 : decode cX3_greaterPart 43 = .ok (.iinc 4 1, 3) := by decide +kernel
theorem dX3_greaterPart_46 : decode cX3_greaterPart 46 = .ok (.goto (-37), 3) := by decide +kernel
theorem dX3_greaterPart_49 : decode cX3_greaterPart 49 = .ok (.lload_n 2, 1) := by decide +kernel
theorem dX3_greaterPart_50 : decode cX3_greaterPart 50 = .ok (.lreturn, 1) := by decide +kernel
