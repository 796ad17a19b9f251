theorem dX4_init_0 : decode cX4_init 0 = .ok (.aload_n 0, 1) := by decide +kernel
theorem dX4_init_1 : decode cX4_init 1 = .ok (.invokespecial 3, 3) := by decide +kernel
theorem dX4_init_4 : decode cX4_init 4 = .ok (.aload_n 0, 1) := by decide +kernel
theorem dX4_init_5 : decode cX4_init 5 = .ok (.bipush 21, 2) := by decide +kernel
theorem dX4_init_7 : decode cX4_init 7 = .ok (.newarray .int, 2) := by decide +kernel
theorem dX4_init_9 : decode cX4_init 9 = .ok (.putfield 11, 3) := by decide +kernel
theorem dX4_init_12 : decode cX4_init 12 = .ok (.aload_n 0, 1) := by decide +kernel
theorem dX4_init_13 : decode cX4_init 13 = .ok (.bipush 21, 2) := by decide +kernel
theorem dX4_init_15 : decode cX4_init 15 = .ok (.newarray .int, 2) := by decide +kernel
theorem dX4_init_17 : decode cX4_init 17 = .ok (.putfield 15, 3) := by decide +kernel
theorem dX4_init_20 : decode cX4_init 20 = .ok (.return_, 1) := by decide +kernel
theorem dX4_allows_0 : decode cX4_allows 0 = .ok (.iload_n 0, 1) := by decide +kernel
theorem dX4_allows_1 : decode cX4_allows 1 = .ok (.sipush (-1000), 3) := by decide +kernel
theorem dX4_allows_4 : decode cX4_allows 4 = .ok (.if_icmp .lt 14, 3) := by decide +kernel
theorem dX4_allows_7 : decode cX4_allows 7 = .ok (.iload_n 0, 1) := by decide +kernel
theorem dX4_allows_8 : decode cX4_allows 8 = .ok (.sipush 1000, 3) := by decide +kernel
theorem dX4_allows_11 : decode cX4_allows 11 = .ok (.if_icmp .gt 7, 3) := by decide +kernel
theorem dX4_allows_14 : decode cX4_allows 14 = .ok (.iconst 1, 1) := by decide +kernel
theorem dX4_allows_15 : decode cX4_allows 15 = .ok (.goto 4, 3) := by decide +kernel
theorem dX4_allows_18 : decode cX4_allows 18 = .ok (.iconst 0, 1) := by decide +kernel
theorem dX4_allows_19 : decode cX4_allows 19 = .ok (.ireturn, 1) := by decide +kernel
theorem dX4_brings_0 : decode cX4_brings 0 = .ok (.iload_n 1, 1) := by decide +kernel
theorem dX4_brings_1 : decode cX4_brings 1 = .ok (.aload_n 0, 1) := by decide +kernel
theorem dX4_brings_2 : decode cX4_brings 2 = .ok (.getfield 11, 3) := by decide +kernel
theorem dX4_brings_5 : decode cX4_brings 5 = .ok (.iload_n 2, 1) := by decide +kernel
theorem dX4_brings_6 : decode cX4_brings 6 = .ok (.iaload, 1) := by decide +kernel
theorem dX4_brings_7 : decode cX4_brings 7 = .ok (.imul, 1) := by decide +kernel
theorem dX4_brings_8 : decode cX4_brings 8 = .ok (.bipush 20, 2) := by decide +kernel
theorem dX4_brings_10 : decode cX4_brings 10 = .ok (.iload_n 1, 1) := by decide +kernel
theorem dX4_brings_11 : decode cX4_brings 11 = .ok (.isub, 1) := by decide +kernel
theorem dX4_brings_12 : decode cX4_brings 12 = .ok (.aload_n 0, 1) := by decide +kernel
theorem dX4_brings_13 : decode cX4_brings 13 = .ok (.getfield 15, 3) := by decide +kernel
theorem dX4_brings_16 : decode cX4_brings 16 = .ok (.iload_n 2, 1) := by decide +kernel
theorem dX4_brings_17 : decode cX4_brings 17 = .ok (.iaload, 1) := by decide +kernel
theorem dX4_brings_18 : decode cX4_brings 18 = .ok (.imul, 1) := by decide +kernel
theorem dX4_brings_19 : decode cX4_brings 19 = .ok (.iadd, 1) := by decide +kernel
theorem dX4_brings_20 : decode cX4_brings 20 = .ok (.ireturn, 1) := by decide +kernel
theorem dX4_bestSaying_0 : decode cX4_bestSaying 0 = .ok (.iconst 0, 1) := by decide +kernel
theorem dX4_bestSaying_1 : decode cX4_bestSaying 1 = .ok (.istore_n 2, 1) := by decide +kernel
theorem dX4_bestSaying_2 : decode cX4_bestSaying 2 = .ok (.iconst 1, 1) := by decide +kernel
theorem dX4_bestSaying_3 : decode cX4_bestSaying 3 = .ok (.istore_n 3, 1) := by decide +kernel
theorem dX4_bestSaying_4 : decode cX4_bestSaying 4 = .ok (.iload_n 3, 1) := by decide +kernel
theorem dX4_bestSaying_5 : decode cX4_bestSaying 5 = .ok (.bipush 20, 2) := by decide +kernel
theorem dX4_bestSaying_7 : decode cX4_bestSaying 7 = .ok (.if_icmp .gt 26, 3) := by decide +kernel
theorem dX4_bestSaying_10 : decode cX4_bestSaying 10 = .ok (.aload_n 0, 1) := by decide +kernel
theorem dX4_bestSaying_11 : decode cX4_bestSaying 11 = .ok (.iload_n 1, 1) := by decide +kernel
theorem dX4_bestSaying_12 : decode cX4_bestSaying 12 = .ok (.iload_n 3, 1) := by decide +kernel
theorem dX4_bestSaying_13 : decode cX4_bestSaying 13 = .ok (.invokevirtual 18, 3) := by decide +kernel
theorem dX4_bestSaying_16 : decode cX4_bestSaying 16 = .ok (.aload_n 0, 1) := by decide +kernel
theorem dX4_bestSaying_17 : decode cX4_bestSaying 17 = .ok (.iload_n 1, 1) := by decide +kernel
theorem dX4_bestSaying_18 : decode cX4_bestSaying 18 = .ok (.iload_n 2, 1) := by decide +kernel
theorem dX4_bestSaying_19 : decode cX4_bestSaying 19 = .ok (.invokevirtual 18, 3) := by decide +kernel
theorem dX4_bestSaying_22 : decode cX4_bestSaying 22 = .ok (.if_icmp .le 5, 3) := by decide +kernel
theorem dX4_bestSaying_25 : decode cX4_bestSaying 25 = .ok (.iload_n 3, 1) := by decide +kernel
theorem dX4_bestSaying_26 : decode cX4_bestSaying 26 = .ok (.istore_n 2, 1) := by decide +kernel
theorem dX4_bestSaying_27 : decode cX4_bestSaying 27 = .ok (.iinc 3 1, 3) := by decide +kernel
theorem dX4_bestSaying_30 : decode cX4_bestSaying 30 = .ok (.goto (-26), 3) := by decide +kernel
theorem dX4_bestSaying_33 : decode cX4_bestSaying 33 = .ok (.iload_n 2, 1) := by decide +kernel
theorem dX4_bestSaying_34 : decode cX4_bestSaying 34 = .ok (.ireturn, 1) := by decide +kernel
theorem dX4_firstUntrue_0 : decode cX4_firstUntrue 0 = .ok (.iconst 0, 1) := by decide +kernel
theorem dX4_firstUntrue_1 : decode cX4_firstUntrue 1 = .ok (.istore_n 1, 1) := by decide +kernel
theorem dX4_firstUntrue_2 : decode cX4_firstUntrue 2 = .ok (.iload_n 1, 1) := by decide +kernel
theorem dX4_firstUntrue_3 : decode cX4_firstUntrue 3 = .ok (.bipush 20, 2) := by decide +kernel
theorem dX4_firstUntrue_5 : decode cX4_firstUntrue 5 = .ok (.if_icmp .gt 30, 3) := by decide +kernel
theorem dX4_firstUntrue_8 : decode cX4_firstUntrue 8 = .ok (.aload_n 0, 1) := by decide +kernel
theorem dX4_firstUntrue_9 : decode cX4_firstUntrue 9 = .ok (.iload_n 1, 1) := by decide +kernel
theorem dX4_firstUntrue_10 : decode cX4_firstUntrue 10 = .ok (.aload_n 0, 1) := by decide +kernel
theorem dX4_firstUntrue_11 : decode cX4_firstUntrue 11 = .ok (.iload_n 1, 1) := by decide +kernel
theorem dX4_firstUntrue_12 : decode cX4_firstUntrue 12 = .ok (.invokevirtual 22, 3) := by decide +kernel
theorem dX4_firstUntrue_15 : decode cX4_firstUntrue 15 = .ok (.invokevirtual 18, 3) := by decide +kernel
theorem dX4_firstUntrue_18 : decode cX4_firstUntrue 18 = .ok (.aload_n 0, 1) := by decide +kernel
theorem dX4_firstUntrue_19 : decode cX4_firstUntrue 19 = .ok (.iload_n 1, 1) := by decide +kernel
theorem dX4_firstUntrue_20 : decode cX4_firstUntrue 20 = .ok (.iload_n 1, 1) := by decide +kernel
theorem dX4_firstUntrue_21 : decode cX4_firstUntrue 21 = .ok (.invokevirtual 18, 3) := by decide +kernel
theorem dX4_firstUntrue_24 : decode cX4_firstUntrue 24 = .ok (.if_icmp .le 5, 3) := by decide +kernel
theorem dX4_firstUntrue_27 : decode cX4_firstUntrue 27 = .ok (.iload_n 1, 1) := by decide +kernel
theorem dX4_firstUntrue_28 : decode cX4_firstUntrue 28 = .ok (.ireturn, 1) := by decide +kernel
theorem dX4_firstUntrue_29 : decode cX4_firstUntrue 29 = .ok (.iinc 1 1, 3) := by decide +kernel
theorem dX4_firstUntrue_32 : decode cX4_firstUntrue 32 = .ok (.goto (-30), 3) := by decide +kernel
theorem dX4_firstUntrue_35 : decode cX4_firstUntrue 35 = .ok (.bipush (-6), 2) := by decide +kernel
theorem dX4_firstUntrue_37 : decode cX4_firstUntrue 37 = .ok (.ireturn, 1) := by decide +kernel
