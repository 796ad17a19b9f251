theorem dX0_init_0 : decode cX0_init 0 = .ok (.aload_n 0, 1) := by decide +kernel
theorem dX0_init_1 : decode cX0_init 1 = .ok (.invokespecial 3, 3) := by decide +kernel
theorem dX0_init_4 : decode cX0_init 4 = .ok (.aload_n 0, 1) := by decide +kernel
theorem dX0_init_5 : decode cX0_init 5 = .ok (.bipush 10, 2) := by decide +kernel
theorem dX0_init_7 : decode cX0_init 7 = .ok (.newarray .boolean, 2) := by decide +kernel
theorem dX0_init_9 : decode cX0_init 9 = .ok (.putfield 9, 3) := by decide +kernel
theorem dX0_init_12 : decode cX0_init 12 = .ok (.aload_n 0, 1) := by decide +kernel
theorem dX0_init_13 : decode cX0_init 13 = .ok (.bipush 10, 2) := by decide +kernel
theorem dX0_init_15 : decode cX0_init 15 = .ok (.newarray .int, 2) := by decide +kernel
theorem dX0_init_17 : decode cX0_init 17 = .ok (.putfield 15, 3) := by decide +kernel
theorem dX0_init_20 : decode cX0_init 20 = .ok (.aload_n 0, 1) := by decide +kernel
theorem dX0_init_21 : decode cX0_init 21 = .ok (.bipush 10, 2) := by decide +kernel
theorem dX0_init_23 : decode cX0_init 23 = .ok (.bipush 24, 2) := by decide +kernel
theorem dX0_init_25 : decode cX0_init 25 = .ok (.multianewarray 19 2, 4) := by decide +kernel
theorem dX0_init_29 : decode cX0_init 29 = .ok (.putfield 21, 3) := by decide +kernel
theorem dX0_init_32 : decode cX0_init 32 = .ok (.return_, 1) := by decide +kernel
theorem dX0_has_0 : decode cX0_has 0 = .ok (.iload_n 1, 1) := by decide +kernel
theorem dX0_has_1 : decode cX0_has 1 = .ok (.ifCond .lt 15, 3) := by decide +kernel
theorem dX0_has_4 : decode cX0_has 4 = .ok (.iload_n 1, 1) := by decide +kernel
theorem dX0_has_5 : decode cX0_has 5 = .ok (.aload_n 0, 1) := by decide +kernel
theorem dX0_has_6 : decode cX0_has 6 = .ok (.getfield 24, 3) := by decide +kernel
theorem dX0_has_9 : decode cX0_has 9 = .ok (.if_icmp .ge 7, 3) := by decide +kernel
theorem dX0_has_12 : decode cX0_has 12 = .ok (.iconst 1, 1) := by decide +kernel
theorem dX0_has_13 : decode cX0_has 13 = .ok (.goto 4, 3) := by decide +kernel
theorem dX0_has_16 : decode cX0_has 16 = .ok (.iconst 0, 1) := by decide +kernel
theorem dX0_has_17 : decode cX0_has 17 = .ok (.ireturn, 1) := by decide +kernel
theorem dX0_add_0 : decode cX0_add 0 = .ok (.aload_n 0, 1) := by decide +kernel
theorem dX0_add_1 : decode cX0_add 1 = .ok (.getfield 24, 3) := by decide +kernel
theorem dX0_add_4 : decode cX0_add 4 = .ok (.istore_n 1, 1) := by decide +kernel
theorem dX0_add_5 : decode cX0_add 5 = .ok (.aload_n 0, 1) := by decide +kernel
theorem dX0_add_6 : decode cX0_add 6 = .ok (.getfield 9, 3) := by decide +kernel
theorem dX0_add_9 : decode cX0_add 9 = .ok (.iload_n 1, 1) := by decide +kernel
theorem dX0_add_10 : decode cX0_add 10 = .ok (.iconst 0, 1) := by decide +kernel
theorem dX0_add_11 : decode cX0_add 11 = .ok (.bastore, 1) := by decide +kernel
theorem dX0_add_12 : decode cX0_add 12 = .ok (.aload_n 0, 1) := by decide +kernel
theorem dX0_add_13 : decode cX0_add 13 = .ok (.getfield 15, 3) := by decide +kernel
theorem dX0_add_16 : decode cX0_add 16 = .ok (.iload_n 1, 1) := by decide +kernel
theorem dX0_add_17 : decode cX0_add 17 = .ok (.iconst 0, 1) := by decide +kernel
theorem dX0_add_18 : decode cX0_add 18 = .ok (.iastore, 1) := by decide +kernel
theorem dX0_add_19 : decode cX0_add 19 = .ok (.iconst 0, 1) := by decide +kernel
theorem dX0_add_20 : decode cX0_add 20 = .ok (.istore_n 2, 1) := by decide +kernel
theorem dX0_add_21 : decode cX0_add 21 = .ok (.iload_n 2, 1) := by decide +kernel
theorem dX0_add_22 : decode cX0_add 22 = .ok (.bipush 24, 2) := by decide +kernel
theorem dX0_add_24 : decode cX0_add 24 = .ok (.if_icmp .ge 19, 3) := by decide +kernel
theorem dX0_add_27 : decode cX0_add 27 = .ok (.aload_n 0, 1) := by decide +kernel
theorem dX0_add_28 : decode cX0_add 28 = .ok (.getfield 21, 3) := by decide +kernel
theorem dX0_add_31 : decode cX0_add 31 = .ok (.iload_n 1, 1) := by decide +kernel
theorem dX0_add_32 : decode cX0_add 32 = .ok (.aaload, 1) := by decide +kernel
theorem dX0_add_33 : decode cX0_add 33 = .ok (.iload_n 2, 1) := by decide +kernel
theorem dX0_add_34 : decode cX0_add 34 = .ok (.bipush (-6), 2) := by decide +kernel
theorem dX0_add_36 : decode cX0_add 36 = .ok (.iastore, 1) := by decide +kernel
theorem dX0_add_37 : decode cX0_add 37 = .ok (.iinc 2 1, 3) := by decide +kernel
theorem dX0_add_40 : decode cX0_add 40 = .ok (.goto (-19), 3) := by decide +kernel
theorem dX0_add_43 : decode cX0_add 43 = .ok (.aload_n 0, 1) := by decide +kernel
theorem dX0_add_44 : decode cX0_add 44 = .ok (.dup, 1) := by decide +kernel
theorem dX0_add_45 : decode cX0_add 45 = .ok (.getfield 24, 3) := by decide +kernel
theorem dX0_add_48 : decode cX0_add 48 = .ok (.iconst 1, 1) := by decide +kernel
theorem dX0_add_49 : decode cX0_add 49 = .ok (.iadd, 1) := by decide +kernel
theorem dX0_add_50 : decode cX0_add 50 = .ok (.putfield 24, 3) := by decide +kernel
theorem dX0_add_53 : decode cX0_add 53 = .ok (.iload_n 1, 1) := by decide +kernel
theorem dX0_add_54 : decode cX0_add 54 = .ok (.ireturn, 1) := by decide +kernel
theorem dX0_counts_0 : decode cX0_counts 0 = .ok (.aload_n 0, 1) := by decide +kernel
theorem dX0_counts_1 : decode cX0_counts 1 = .ok (.getfield 9, 3) := by decide +kernel
theorem dX0_counts_4 : decode cX0_counts 4 = .ok (.iload_n 1, 1) := by decide +kernel
theorem dX0_counts_5 : decode cX0_counts 5 = .ok (.baload, 1) := by decide +kernel
theorem dX0_counts_6 : decode cX0_counts 6 = .ok (.ifCond .ne 20, 3) := by decide +kernel
theorem dX0_counts_9 : decode cX0_counts 9 = .ok (.aload_n 0, 1) := by decide +kernel
theorem dX0_counts_10 : decode cX0_counts 10 = .ok (.getfield 21, 3) := by decide +kernel
theorem dX0_counts_13 : decode cX0_counts 13 = .ok (.iload_n 1, 1) := by decide +kernel
theorem dX0_counts_14 : decode cX0_counts 14 = .ok (.aaload, 1) := by decide +kernel
theorem dX0_counts_15 : decode cX0_counts 15 = .ok (.iload_n 2, 1) := by decide +kernel
theorem dX0_counts_16 : decode cX0_counts 16 = .ok (.iaload, 1) := by decide +kernel
theorem dX0_counts_17 : decode cX0_counts 17 = .ok (.bipush (-6), 2) := by decide +kernel
theorem dX0_counts_19 : decode cX0_counts 19 = .ok (.if_icmp .eq 7, 3) := by decide +kernel
theorem dX0_counts_22 : decode cX0_counts 22 = .ok (.iconst 1, 1) := by decide +kernel
theorem dX0_counts_23 : decode cX0_counts 23 = .ok (.goto 4, 3) := by decide +kernel
theorem dX0_counts_26 : decode cX0_counts 26 = .ok (.iconst 0, 1) := by decide +kernel
theorem dX0_counts_27 : decode cX0_counts 27 = .ok (.ireturn, 1) := by decide +kernel
theorem dX0_anySaid_0 : decode cX0_anySaid 0 = .ok (.iconst 0, 1) := by decide +kernel
theorem dX0_anySaid_1 : decode cX0_anySaid 1 = .ok (.istore_n 2, 1) := by decide +kernel
theorem dX0_anySaid_2 : decode cX0_anySaid 2 = .ok (.iload_n 2, 1) := by decide +kernel
theorem dX0_anySaid_3 : decode cX0_anySaid 3 = .ok (.aload_n 0, 1) := by decide +kernel
theorem dX0_anySaid_4 : decode cX0_anySaid 4 = .ok (.getfield 24, 3) := by decide +kernel
theorem dX0_anySaid_7 : decode cX0_anySaid 7 = .ok (.if_icmp .ge 24, 3) := by decide +kernel
theorem dX0_anySaid_10 : decode cX0_anySaid 10 = .ok (.aload_n 0, 1) := by decide +kernel
theorem dX0_anySaid_11 : decode cX0_anySaid 11 = .ok (.getfield 21, 3) := by decide +kernel
theorem dX0_anySaid_14 : decode cX0_anySaid 14 = .ok (.iload_n 2, 1) := by decide +kernel
theorem dX0_anySaid_15 : decode cX0_anySaid 15 = .ok (.aaload, 1) := by decide +kernel
theorem dX0_anySaid_16 : decode cX0_anySaid 16 = .ok (.iload_n 1, 1) := by decide +kernel
theorem dX0_anySaid_17 : decode cX0_anySaid 17 = .ok (.iaload, 1) := by decide +kernel
theorem dX0_anySaid_18 : decode cX0_anySaid 18 = .ok (.bipush (-6), 2) := by decide +kernel
theorem dX0_anySaid_20 : decode cX0_anySaid 20 = .ok (.if_icmp .eq 5, 3) := by decide +kernel
theorem dX0_anySaid_23 : decode cX0_anySaid 23 = .ok (.iconst 1, 1) := by decide +kernel
theorem dX0_anySaid_24 : decode cX0_anySaid 24 = .ok (.ireturn, 1) := by decide +kernel
theorem dX0_anySaid_25 : decode cX0_anySaid 25 = .ok (.iinc 2 1, 3) := by decide +kernel
theorem dX0_anySaid_28 : decode cX0_anySaid 28 = .ok (.goto (-26), 3) := by decide +kernel
theorem dX0_anySaid_31 : decode cX0_anySaid 31 = .ok (.iconst 0, 1) := by decide +kernel
theorem dX0_anySaid_32 : decode cX0_anySaid 32 = .ok (.ireturn, 1) := by decide +kernel
theorem dX0_countTo_0 : decode cX0_countTo 0 = .ok (.iconst 0, 1) := by decide +kernel
theorem dX0_countTo_1 : decode cX0_countTo 1 = .ok (.istore_n 2, 1) := by decide +kernel
theorem dX0_countTo_2 : decode cX0_countTo 2 = .ok (.iconst 0, 1) := by decide +kernel
theorem dX0_countTo_3 : decode cX0_countTo 3 = .ok (.istore_n 3, 1) := by decide +kernel
theorem dX0_countTo_4 : decode cX0_countTo 4 = .ok (.iload_n 3, 1) := by decide +kernel
theorem dX0_countTo_5 : decode cX0_countTo 5 = .ok (.aload_n 0, 1) := by decide +kernel
theorem dX0_countTo_6 : decode cX0_countTo 6 = .ok (.getfield 24, 3) := by decide +kernel
theorem dX0_countTo_9 : decode cX0_countTo 9 = .ok (.if_icmp .ge 26, 3) := by decide +kernel
theorem dX0_countTo_12 : decode cX0_countTo 12 = .ok (.iload_n 2, 1) := by decide +kernel
theorem dX0_countTo_13 : decode cX0_countTo 13 = .ok (.aload_n 0, 1) := by decide +kernel
theorem dX0_countTo_14 : decode cX0_countTo 14 = .ok (.iload_n 3, 1) := by decide +kernel
theorem dX0_countTo_15 : decode cX0_countTo 15 = .ok (.iload_n 1, 1) := by decide +kernel
theorem dX0_countTo_16 : decode cX0_countTo 16 = .ok (.invokevirtual 28, 3) := by decide +kernel
theorem dX0_countTo_19 : decode cX0_countTo 19 = .ok (.ifCond .eq 7, 3) := by decide +kernel
theorem dX0_countTo_22 : decode cX0_countTo 22 = .ok (.iconst 1, 1) := by decide +kernel
theorem dX0_countTo_23 : decode cX0_countTo 23 = .ok (.goto 4, 3) := by decide +kernel
theorem dX0_countTo_26 : decode cX0_countTo 26 = .ok (.iconst 0, 1) := by decide +kernel
theorem dX0_countTo_27 : decode cX0_countTo 27 = .ok (.iadd, 1) := by decide +kernel
theorem dX0_countTo_28 : decode cX0_countTo 28 = .ok (.istore_n 2, 1) := by decide +kernel
theorem dX0_countTo_29 : decode cX0_countTo 29 = .ok (.iinc 3 1, 3) := by decide +kernel
theorem dX0_countTo_32 : decode cX0_countTo 32 = .ok (.goto (-28), 3) := by decide +kernel
theorem dX0_countTo_35 : decode cX0_countTo 35 = .ok (.iload_n 2, 1) := by decide +kernel
theorem dX0_countTo_36 : decode cX0_countTo 36 = .ok (.ireturn, 1) := by decide +kernel
theorem dX0_countWith_0 : decode cX0_countWith 0 = .ok (.iconst 0, 1) := by decide +kernel
theorem dX0_countWith_1 : decode cX0_countWith 1 = .ok (.istore_n 3, 1) := by decide +kernel
theorem dX0_countWith_2 : decode cX0_countWith 2 = .ok (.iconst 0, 1) := by decide +kernel
theorem dX0_countWith_3 : decode cX0_countWith 3 = .ok (.istore 4, 2) := by decide +kernel
theorem dX0_countWith_5 : decode cX0_countWith 5 = .ok (.iload 4, 2) := by decide +kernel
theorem dX0_countWith_7 : decode cX0_countWith 7 = .ok (.aload_n 0, 1) := by decide +kernel
theorem dX0_countWith_8 : decode cX0_countWith 8 = .ok (.getfield 24, 3) := by decide +kernel
theorem dX0_countWith_11 : decode cX0_countWith 11 = .ok (.if_icmp .ge 40, 3) := by decide +kernel
theorem dX0_countWith_14 : decode cX0_countWith 14 = .ok (.iload_n 3, 1) := by decide +kernel
theorem dX0_countWith_15 : decode cX0_countWith 15 = .ok (.aload_n 0, 1) := by decide +kernel
theorem dX0_countWith_16 : decode cX0_countWith 16 = .ok (.iload 4, 2) := by decide +kernel
theorem dX0_countWith_18 : decode cX0_countWith 18 = .ok (.iload_n 1, 1) := by decide +kernel
theorem dX0_countWith_19 : decode cX0_countWith 19 = .ok (.invokevirtual 28, 3) := by decide +kernel
theorem dX0_countWith_22 : decode cX0_countWith 22 = .ok (.ifCond .eq 20, 3) := by decide +kernel
theorem dX0_countWith_25 : decode cX0_countWith 25 = .ok (.aload_n 0, 1) := by decide +kernel
theorem dX0_countWith_26 : decode cX0_countWith 26 = .ok (.getfield 21, 3) := by decide +kernel
theorem dX0_countWith_29 : decode cX0_countWith 29 = .ok (.iload 4, 2) := by decide +kernel
theorem dX0_countWith_31 : decode cX0_countWith 31 = .ok (.aaload, 1) := by decide +kernel
theorem dX0_countWith_32 : decode cX0_countWith 32 = .ok (.iload_n 1, 1) := by decide +kernel
theorem dX0_countWith_33 : decode cX0_countWith 33 = .ok (.iaload, 1) := by decide +kernel
theorem dX0_countWith_34 : decode cX0_countWith 34 = .ok (.iload_n 2, 1) := by decide +kernel
theorem dX0_countWith_35 : decode cX0_countWith 35 = .ok (.if_icmp .ne 7, 3) := by decide +kernel
theorem dX0_countWith_38 : decode cX0_countWith 38 = .ok (.iconst 1, 1) := by decide +kernel
theorem dX0_countWith_39 : decode cX0_countWith 39 = .ok (.goto 4, 3) := by decide +kernel
theorem dX0_countWith_42 : decode cX0_countWith 42 = .ok (.iconst 0, 1) := by decide +kernel
theorem dX0_countWith_43 : decode cX0_countWith 43 = .ok (.iadd, 1) := by decide +kernel
theorem dX0_countWith_44 : decode cX0_countWith 44 = .ok (.istore_n 3, 1) := by decide +kernel
theorem dX0_countWith_45 : decode cX0_countWith 45 = .ok (.iinc 4 1, 3) := by decide +kernel
theorem dX0_countWith_48 : decode cX0_countWith 48 = .ok (.goto (-43), 3) := by decide +kernel
theorem dX0_countWith_51 : decode cX0_countWith 51 = .ok (.iload_n 3, 1) := by decide +kernel
theorem dX0_countWith_52 : decode cX0_countWith 52 = .ok (.ireturn, 1) := by decide +kernel
