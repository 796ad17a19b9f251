theorem dX6_init_0 : decode cX6_init 0 = .ok (.aload_n 0, 1) := by decide +kernel
theorem dX6_init_1 : decode cX6_init 1 = .ok (.invokespecial 3, 3) := by decide +kernel
theorem dX6_init_4 : decode cX6_init 4 = .ok (.aload_n 0, 1) := by decide +kernel
theorem dX6_init_5 : decode cX6_init 5 = .ok (.bipush 8, 2) := by decide +kernel
theorem dX6_init_7 : decode cX6_init 7 = .ok (.newarray .int, 2) := by decide +kernel
theorem dX6_init_9 : decode cX6_init 9 = .ok (.putfield 9, 3) := by decide +kernel
theorem dX6_init_12 : decode cX6_init 12 = .ok (.aload_n 0, 1) := by decide +kernel
theorem dX6_init_13 : decode cX6_init 13 = .ok (.bipush 8, 2) := by decide +kernel
theorem dX6_init_15 : decode cX6_init 15 = .ok (.newarray .int, 2) := by decide +kernel
theorem dX6_init_17 : decode cX6_init 17 = .ok (.putfield 15, 3) := by decide +kernel
theorem dX6_init_20 : decode cX6_init 20 = .ok (.aload_n 0, 1) := by decide +kernel
theorem dX6_init_21 : decode cX6_init 21 = .ok (.bipush 8, 2) := by decide +kernel
theorem dX6_init_23 : decode cX6_init 23 = .ok (.newarray .int, 2) := by decide +kernel
theorem dX6_init_25 : decode cX6_init 25 = .ok (.putfield 18, 3) := by decide +kernel
theorem dX6_init_28 : decode cX6_init 28 = .ok (.aload_n 0, 1) := by decide +kernel
theorem dX6_init_29 : decode cX6_init 29 = .ok (.bipush 8, 2) := by decide +kernel
theorem dX6_init_31 : decode cX6_init 31 = .ok (.newarray .int, 2) := by decide +kernel
theorem dX6_init_33 : decode cX6_init 33 = .ok (.putfield 21, 3) := by decide +kernel
theorem dX6_init_36 : decode cX6_init 36 = .ok (.return_, 1) := by decide +kernel
theorem dX6_has_0 : decode cX6_has 0 = .ok (.iload_n 1, 1) := by decide +kernel
theorem dX6_has_1 : decode cX6_has 1 = .ok (.ifCond .lt 15, 3) := by decide +kernel
theorem dX6_has_4 : decode cX6_has 4 = .ok (.iload_n 1, 1) := by decide +kernel
theorem dX6_has_5 : decode cX6_has 5 = .ok (.aload_n 0, 1) := by decide +kernel
theorem dX6_has_6 : decode cX6_has 6 = .ok (.getfield 24, 3) := by decide +kernel
theorem dX6_has_9 : decode cX6_has 9 = .ok (.if_icmp .ge 7, 3) := by decide +kernel
theorem dX6_has_12 : decode cX6_has 12 = .ok (.iconst 1, 1) := by decide +kernel
theorem dX6_has_13 : decode cX6_has 13 = .ok (.goto 4, 3) := by decide +kernel
theorem dX6_has_16 : decode cX6_has 16 = .ok (.iconst 0, 1) := by decide +kernel
theorem dX6_has_17 : decode cX6_has 17 = .ok (.ireturn, 1) := by decide +kernel
theorem dX6_named_0 : decode cX6_named 0 = .ok (.iconst 0, 1) := by decide +kernel
theorem dX6_named_1 : decode cX6_named 1 = .ok (.istore_n 3, 1) := by decide +kernel
theorem dX6_named_2 : decode cX6_named 2 = .ok (.iload_n 3, 1) := by decide +kernel
theorem dX6_named_3 : decode cX6_named 3 = .ok (.iload_n 2, 1) := by decide +kernel
theorem dX6_named_4 : decode cX6_named 4 = .ok (.if_icmp .ge 21, 3) := by decide +kernel
theorem dX6_named_7 : decode cX6_named 7 = .ok (.aload_n 0, 1) := by decide +kernel
theorem dX6_named_8 : decode cX6_named 8 = .ok (.getfield 9, 3) := by decide +kernel
theorem dX6_named_11 : decode cX6_named 11 = .ok (.iload_n 3, 1) := by decide +kernel
theorem dX6_named_12 : decode cX6_named 12 = .ok (.iaload, 1) := by decide +kernel
theorem dX6_named_13 : decode cX6_named 13 = .ok (.iload_n 1, 1) := by decide +kernel
theorem dX6_named_14 : decode cX6_named 14 = .ok (.if_icmp .ne 5, 3) := by decide +kernel
theorem dX6_named_17 : decode cX6_named 17 = .ok (.iload_n 3, 1) := by decide +kernel
theorem dX6_named_18 : decode cX6_named 18 = .ok (.ireturn, 1) := by decide +kernel
theorem dX6_named_19 : decode cX6_named 19 = .ok (.iinc 3 1, 3) := by decide +kernel
theorem dX6_named_22 : decode cX6_named 22 = .ok (.goto (-20), 3) := by decide +kernel
theorem dX6_named_25 : decode cX6_named 25 = .ok (.bipush (-6), 2) := by decide +kernel
theorem dX6_named_27 : decode cX6_named 27 = .ok (.ireturn, 1) := by decide +kernel
theorem dX6_add_0 : decode cX6_add 0 = .ok (.aload_n 0, 1) := by decide +kernel
theorem dX6_add_1 : decode cX6_add 1 = .ok (.getfield 9, 3) := by decide +kernel
theorem dX6_add_4 : decode cX6_add 4 = .ok (.aload_n 0, 1) := by decide +kernel
theorem dX6_add_5 : decode cX6_add 5 = .ok (.getfield 24, 3) := by decide +kernel
theorem dX6_add_8 : decode cX6_add 8 = .ok (.iload_n 1, 1) := by decide +kernel
theorem dX6_add_9 : decode cX6_add 9 = .ok (.iastore, 1) := by decide +kernel
theorem dX6_add_10 : decode cX6_add 10 = .ok (.aload_n 0, 1) := by decide +kernel
theorem dX6_add_11 : decode cX6_add 11 = .ok (.getfield 15, 3) := by decide +kernel
theorem dX6_add_14 : decode cX6_add 14 = .ok (.aload_n 0, 1) := by decide +kernel
theorem dX6_add_15 : decode cX6_add 15 = .ok (.getfield 24, 3) := by decide +kernel
theorem dX6_add_18 : decode cX6_add 18 = .ok (.iconst 2, 1) := by decide +kernel
theorem dX6_add_19 : decode cX6_add 19 = .ok (.iastore, 1) := by decide +kernel
theorem dX6_add_20 : decode cX6_add 20 = .ok (.aload_n 0, 1) := by decide +kernel
theorem dX6_add_21 : decode cX6_add 21 = .ok (.getfield 18, 3) := by decide +kernel
theorem dX6_add_24 : decode cX6_add 24 = .ok (.aload_n 0, 1) := by decide +kernel
theorem dX6_add_25 : decode cX6_add 25 = .ok (.getfield 24, 3) := by decide +kernel
theorem dX6_add_28 : decode cX6_add 28 = .ok (.iconst 0, 1) := by decide +kernel
theorem dX6_add_29 : decode cX6_add 29 = .ok (.iastore, 1) := by decide +kernel
theorem dX6_add_30 : decode cX6_add 30 = .ok (.aload_n 0, 1) := by decide +kernel
theorem dX6_add_31 : decode cX6_add 31 = .ok (.getfield 21, 3) := by decide +kernel
theorem dX6_add_34 : decode cX6_add 34 = .ok (.aload_n 0, 1) := by decide +kernel
theorem dX6_add_35 : decode cX6_add 35 = .ok (.getfield 24, 3) := by decide +kernel
theorem dX6_add_38 : decode cX6_add 38 = .ok (.iconst 0, 1) := by decide +kernel
theorem dX6_add_39 : decode cX6_add 39 = .ok (.iastore, 1) := by decide +kernel
theorem dX6_add_40 : decode cX6_add 40 = .ok (.aload_n 0, 1) := by decide +kernel
theorem dX6_add_41 : decode cX6_add 41 = .ok (.dup, 1) := by decide +kernel
theorem dX6_add_42 : decode cX6_add 42 = .ok (.getfield 24, 3) := by decide +kernel
theorem dX6_add_45 : decode cX6_add 45 = .ok (.iconst 1, 1) := by decide +kernel
theorem dX6_add_46 : decode cX6_add 46 = .ok (.iadd, 1) := by decide +kernel
theorem dX6_add_47 : decode cX6_add 47 = .ok (.putfield 24, 3) := by decide +kernel
theorem dX6_add_50 : decode cX6_add 50 = .ok (.return_, 1) := by decide +kernel
theorem dX6_copy_0 : decode cX6_copy 0 = .ok (.aload_n 0, 1) := by decide +kernel
theorem dX6_copy_1 : decode cX6_copy 1 = .ok (.aload_n 1, 1) := by decide +kernel
theorem dX6_copy_2 : decode cX6_copy 2 = .ok (.getfield 24, 3) := by decide +kernel
theorem dX6_copy_5 : decode cX6_copy 5 = .ok (.putfield 24, 3) := by decide +kernel
theorem dX6_copy_8 : decode cX6_copy 8 = .ok (.aload_n 1, 1) := by decide +kernel
theorem dX6_copy_9 : decode cX6_copy 9 = .ok (.getfield 9, 3) := by decide +kernel
theorem dX6_copy_12 : decode cX6_copy 12 = .ok (.iconst 0, 1) := by decide +kernel
theorem dX6_copy_13 : decode cX6_copy 13 = .ok (.aload_n 0, 1) := by decide +kernel
theorem dX6_copy_14 : decode cX6_copy 14 = .ok (.getfield 9, 3) := by decide +kernel
theorem dX6_copy_17 : decode cX6_copy 17 = .ok (.iconst 0, 1) := by decide +kernel
theorem dX6_copy_18 : decode cX6_copy 18 = .ok (.bipush 8, 2) := by decide +kernel
theorem dX6_copy_20 : decode cX6_copy 20 = .ok (.invokestatic 28, 3) := by decide +kernel
theorem dX6_copy_23 : decode cX6_copy 23 = .ok (.aload_n 1, 1) := by decide +kernel
theorem dX6_copy_24 : decode cX6_copy 24 = .ok (.getfield 15, 3) := by decide +kernel
theorem dX6_copy_27 : decode cX6_copy 27 = .ok (.iconst 0, 1) := by decide +kernel
theorem dX6_copy_28 : decode cX6_copy 28 = .ok (.aload_n 0, 1) := by decide +kernel
theorem dX6_copy_29 : decode cX6_copy 29 = .ok (.getfield 15, 3) := by decide +kernel
theorem dX6_copy_32 : decode cX6_copy 32 = .ok (.iconst 0, 1) := by decide +kernel
theorem dX6_copy_33 : decode cX6_copy 33 = .ok (.bipush 8, 2) := by decide +kernel
theorem dX6_copy_35 : decode cX6_copy 35 = .ok (.invokestatic 28, 3) := by decide +kernel
theorem dX6_copy_38 : decode cX6_copy 38 = .ok (.aload_n 1, 1) := by decide +kernel
theorem dX6_copy_39 : decode cX6_copy 39 = .ok (.getfield 18, 3) := by decide +kernel
theorem dX6_copy_42 : decode cX6_copy 42 = .ok (.iconst 0, 1) := by decide +kernel
theorem dX6_copy_43 : decode cX6_copy 43 = .ok (.aload_n 0, 1) := by decide +kernel
theorem dX6_copy_44 : decode cX6_copy 44 = .ok (.getfield 18, 3) := by decide +kernel
theorem dX6_copy_47 : decode cX6_copy 47 = .ok (.iconst 0, 1) := by decide +kernel
theorem dX6_copy_48 : decode cX6_copy 48 = .ok (.bipush 8, 2) := by decide +kernel
theorem dX6_copy_50 : decode cX6_copy 50 = .ok (.invokestatic 28, 3) := by decide +kernel
theorem dX6_copy_53 : decode cX6_copy 53 = .ok (.aload_n 1, 1) := by decide +kernel
theorem dX6_copy_54 : decode cX6_copy 54 = .ok (.getfield 21, 3) := by decide +kernel
theorem dX6_copy_57 : decode cX6_copy 57 = .ok (.iconst 0, 1) := by decide +kernel
theorem dX6_copy_58 : decode cX6_copy 58 = .ok (.aload_n 0, 1) := by decide +kernel
theorem dX6_copy_59 : decode cX6_copy 59 = .ok (.getfield 21, 3) := by decide +kernel
theorem dX6_copy_62 : decode cX6_copy 62 = .ok (.iconst 0, 1) := by decide +kernel
theorem dX6_copy_63 : decode cX6_copy 63 = .ok (.bipush 8, 2) := by decide +kernel
theorem dX6_copy_65 : decode cX6_copy 65 = .ok (.invokestatic 28, 3) := by decide +kernel
theorem dX6_copy_68 : decode cX6_copy 68 = .ok (.return_, 1) := by decide +kernel
