theorem dX5_init_0 : decode cX5_init 0 = .ok (.aload_n 0, 1) := by decide +kernel
theorem dX5_init_1 : decode cX5_init 1 = .ok (.invokespecial 1, 3) := by decide +kernel
theorem dX5_init_4 : decode cX5_init 4 = .ok (.aload_n 0, 1) := by decide +kernel
theorem dX5_init_5 : decode cX5_init 5 = .ok (.getstatic 7, 3) := by decide +kernel
theorem dX5_init_8 : decode cX5_init 8 = .ok (.arraylength, 1) := by decide +kernel
theorem dX5_init_9 : decode cX5_init 9 = .ok (.newarray .int, 2) := by decide +kernel
theorem dX5_init_11 : decode cX5_init 11 = .ok (.putfield 13, 3) := by decide +kernel
theorem dX5_init_14 : decode cX5_init 14 = .ok (.getstatic 7, 3) := by decide +kernel
theorem dX5_init_17 : decode cX5_init 17 = .ok (.iconst 0, 1) := by decide +kernel
theorem dX5_init_18 : decode cX5_init 18 = .ok (.aload_n 0, 1) := by decide +kernel
theorem dX5_init_19 : decode cX5_init 19 = .ok (.getfield 13, 3) := by decide +kernel
theorem dX5_init_22 : decode cX5_init 22 = .ok (.iconst 0, 1) := by decide +kernel
theorem dX5_init_23 : decode cX5_init 23 = .ok (.getstatic 7, 3) := by decide +kernel
theorem dX5_init_26 : decode cX5_init 26 = .ok (.arraylength, 1) := by decide +kernel
theorem dX5_init_27 : decode cX5_init 27 = .ok (.invokestatic 16, 3) := by decide +kernel
theorem dX5_init_30 : decode cX5_init 30 = .ok (.return_, 1) := by decide +kernel
theorem dX5_allows_0 : decode cX5_allows 0 = .ok (.iload_n 0, 1) := by decide +kernel
theorem dX5_allows_1 : decode cX5_allows 1 = .ok (.ifCond .lt 33, 3) := by decide +kernel
theorem dX5_allows_4 : decode cX5_allows 4 = .ok (.iload_n 0, 1) := by decide +kernel
theorem dX5_allows_5 : decode cX5_allows 5 = .ok (.getstatic 7, 3) := by decide +kernel
theorem dX5_allows_8 : decode cX5_allows 8 = .ok (.arraylength, 1) := by decide +kernel
theorem dX5_allows_9 : decode cX5_allows 9 = .ok (.if_icmp .ge 25, 3) := by decide +kernel
theorem dX5_allows_12 : decode cX5_allows 12 = .ok (.iload_n 1, 1) := by decide +kernel
theorem dX5_allows_13 : decode cX5_allows 13 = .ok (.getstatic 22, 3) := by decide +kernel
theorem dX5_allows_16 : decode cX5_allows 16 = .ok (.iload_n 0, 1) := by decide +kernel
theorem dX5_allows_17 : decode cX5_allows 17 = .ok (.iaload, 1) := by decide +kernel
theorem dX5_allows_18 : decode cX5_allows 18 = .ok (.if_icmp .lt 16, 3) := by decide +kernel
theorem dX5_allows_21 : decode cX5_allows 21 = .ok (.iload_n 1, 1) := by decide +kernel
theorem dX5_allows_22 : decode cX5_allows 22 = .ok (.getstatic 25, 3) := by decide +kernel
theorem dX5_allows_25 : decode cX5_allows 25 = .ok (.iload_n 0, 1) := by decide +kernel
theorem dX5_allows_26 : decode cX5_allows 26 = .ok (.iaload, 1) := by decide +kernel
theorem dX5_allows_27 : decode cX5_allows 27 = .ok (.if_icmp .gt 7, 3) := by decide +kernel
theorem dX5_allows_30 : decode cX5_allows 30 = .ok (.iconst 1, 1) := by decide +kernel
theorem dX5_allows_31 : decode cX5_allows 31 = .ok (.goto 4, 3) := by decide +kernel
theorem dX5_allows_34 : decode cX5_allows 34 = .ok (.iconst 0, 1) := by decide +kernel
theorem dX5_allows_35 : decode cX5_allows 35 = .ok (.ireturn, 1) := by decide +kernel
