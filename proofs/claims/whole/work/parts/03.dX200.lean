theorem dX2_init_0 : decode cX2_init 0 = .ok (.aload_n 0, 1) := by decide +kernel
theorem dX2_init_1 : decode cX2_init 1 = .ok (.invokespecial 5, 3) := by decide +kernel
theorem dX2_init_4 : decode cX2_init 4 = .ok (.aload_n 0, 1) := by decide +kernel
theorem dX2_init_5 : decode cX2_init 5 = .ok (.aload_n 1, 1) := by decide +kernel
theorem dX2_init_6 : decode cX2_init 6 = .ok (.putfield 11, 3) := by decide +kernel
theorem dX2_init_9 : decode cX2_init 9 = .ok (.aload_n 0, 1) := by decide +kernel
theorem dX2_init_10 : decode cX2_init 10 = .ok (.aload_n 2, 1) := by decide +kernel
theorem dX2_init_11 : decode cX2_init 11 = .ok (.putfield 15, 3) := by decide +kernel
theorem dX2_init_14 : decode cX2_init 14 = .ok (.aload_n 0, 1) := by decide +kernel
theorem dX2_init_15 : decode cX2_init 15 = .ok (.aload_n 3, 1) := by decide +kernel
theorem dX2_init_16 : decode cX2_init 16 = .ok (.putfield 19, 3) := by decide +kernel
theorem dX2_init_19 : decode cX2_init 19 = .ok (.aload_n 0, 1) := by decide +kernel
theorem dX2_init_20 : decode cX2_init 20 = .ok (.bipush 24, 2) := by decide +kernel
theorem dX2_init_22 : decode cX2_init 22 = .ok (.iconst 4, 1) := by decide +kernel
theorem dX2_init_23 : decode cX2_init 23 = .ok (.multianewarray 23 2, 4) := by decide +kernel
theorem dX2_init_27 : decode cX2_init 27 = .ok (.putfield 25, 3) := by decide +kernel
theorem dX2_init_30 : decode cX2_init 30 = .ok (.aload_n 0, 1) := by decide +kernel
theorem dX2_init_31 : decode cX2_init 31 = .ok (.bipush 10, 2) := by decide +kernel
theorem dX2_init_33 : decode cX2_init 33 = .ok (.bipush 48, 2) := by decide +kernel
theorem dX2_init_35 : decode cX2_init 35 = .ok (.multianewarray 23 2, 4) := by decide +kernel
theorem dX2_init_39 : decode cX2_init 39 = .ok (.putfield 28, 3) := by decide +kernel
theorem dX2_init_42 : decode cX2_init 42 = .ok (.aload_n 0, 1) := by decide +kernel
theorem dX2_init_43 : decode cX2_init 43 = .ok (.bipush 48, 2) := by decide +kernel
theorem dX2_init_45 : decode cX2_init 45 = .ok (.newarray .long, 2) := by decide +kernel
theorem dX2_init_47 : decode cX2_init 47 = .ok (.putfield 31, 3) := by decide +kernel
theorem dX2_init_50 : decode cX2_init 50 = .ok (.aload_n 0, 1) := by decide +kernel
theorem dX2_init_51 : decode cX2_init 51 = .ok (.iconst 4, 1) := by decide +kernel
theorem dX2_init_52 : decode cX2_init 52 = .ok (.newarray .long, 2) := by decide +kernel
theorem dX2_init_54 : decode cX2_init 54 = .ok (.putfield 35, 3) := by decide +kernel
theorem dX2_init_57 : decode cX2_init 57 = .ok (.aload_n 0, 1) := by decide +kernel
theorem dX2_init_58 : decode cX2_init 58 = .ok (.iconst 4, 1) := by decide +kernel
theorem dX2_init_59 : decode cX2_init 59 = .ok (.newarray .long, 2) := by decide +kernel
theorem dX2_init_61 : decode cX2_init 61 = .ok (.putfield 38, 3) := by decide +kernel
theorem dX2_init_64 : decode cX2_init 64 = .ok (.aload_n 0, 1) := by decide +kernel
theorem dX2_init_65 : decode cX2_init 65 = .ok (.bipush 24, 2) := by decide +kernel
theorem dX2_init_67 : decode cX2_init 67 = .ok (.newarray .int, 2) := by decide +kernel
theorem dX2_init_69 : decode cX2_init 69 = .ok (.putfield 41, 3) := by decide +kernel
theorem dX2_init_72 : decode cX2_init 72 = .ok (.return_, 1) := by decide +kernel
theorem dX2_spot_0 : decode cX2_spot 0 = .ok (.iload_n 0, 1) := by decide +kernel
theorem dX2_spot_1 : decode cX2_spot 1 = .ok (.iconst 2, 1) := by decide +kernel
theorem dX2_spot_2 : decode cX2_spot 2 = .ok (.isub, 1) := by decide +kernel
theorem dX2_spot_3 : decode cX2_spot 3 = .ok (.bipush 16, 2) := by decide +kernel
theorem dX2_spot_5 : decode cX2_spot 5 = .ok (.imul, 1) := by decide +kernel
theorem dX2_spot_6 : decode cX2_spot 6 = .ok (.iload_n 1, 1) := by decide +kernel
theorem dX2_spot_7 : decode cX2_spot 7 = .ok (.iconst 4, 1) := by decide +kernel
theorem dX2_spot_8 : decode cX2_spot 8 = .ok (.imul, 1) := by decide +kernel
theorem dX2_spot_9 : decode cX2_spot 9 = .ok (.iadd, 1) := by decide +kernel
theorem dX2_spot_10 : decode cX2_spot 10 = .ok (.iload_n 2, 1) := by decide +kernel
theorem dX2_spot_11 : decode cX2_spot 11 = .ok (.iadd, 1) := by decide +kernel
theorem dX2_spot_12 : decode cX2_spot 12 = .ok (.ireturn, 1) := by decide +kernel
theorem dX2_run_0 : decode cX2_run 0 = .ok (.aload_n 0, 1) := by decide +kernel
theorem dX2_run_1 : decode cX2_run 1 = .ok (.getfield 19, 3) := by decide +kernel
theorem dX2_run_4 : decode cX2_run 4 = .ok (.getfield 45, 3) := by decide +kernel
theorem dX2_run_7 : decode cX2_run 7 = .ok (.iconst 2, 1) := by decide +kernel
theorem dX2_run_8 : decode cX2_run 8 = .ok (.iaload, 1) := by decide +kernel
theorem dX2_run_9 : decode cX2_run 9 = .ok (.istore_n 1, 1) := by decide +kernel
theorem dX2_run_10 : decode cX2_run 10 = .ok (.iconst 0, 1) := by decide +kernel
theorem dX2_run_11 : decode cX2_run 11 = .ok (.istore_n 2, 1) := by decide +kernel
theorem dX2_run_12 : decode cX2_run 12 = .ok (.iload_n 2, 1) := by decide +kernel
theorem dX2_run_13 : decode cX2_run 13 = .ok (.aload_n 0, 1) := by decide +kernel
theorem dX2_run_14 : decode cX2_run 14 = .ok (.getfield 11, 3) := by decide +kernel
theorem dX2_run_17 : decode cX2_run 17 = .ok (.getfield 50, 3) := by decide +kernel
theorem dX2_run_20 : decode cX2_run 20 = .ok (.if_icmp .ge 14, 3) := by decide +kernel
theorem dX2_run_23 : decode cX2_run 23 = .ok (.aload_n 0, 1) := by decide +kernel
theorem dX2_run_24 : decode cX2_run 24 = .ok (.iload_n 2, 1) := by decide +kernel
theorem dX2_run_25 : decode cX2_run 25 = .ok (.invokevirtual 56, 3) := by decide +kernel
theorem dX2_run_28 : decode cX2_run 28 = .ok (.iinc 2 1, 3) := by decide +kernel
theorem dX2_run_31 : decode cX2_run 31 = .ok (.goto (-19), 3) := by decide +kernel
theorem dX2_run_34 : decode cX2_run 34 = .ok (.iconst 1, 1) := by decide +kernel
theorem dX2_run_35 : decode cX2_run 35 = .ok (.istore_n 2, 1) := by decide +kernel
theorem dX2_run_36 : decode cX2_run 36 = .ok (.iload_n 2, 1) := by decide +kernel
theorem dX2_run_37 : decode cX2_run 37 = .ok (.iload_n 1, 1) := by decide +kernel
theorem dX2_run_38 : decode cX2_run 38 = .ok (.if_icmp .gt 56, 3) := by decide +kernel
theorem dX2_run_41 : decode cX2_run 41 = .ok (.iconst 0, 1) := by decide +kernel
theorem dX2_run_42 : decode cX2_run 42 = .ok (.istore_n 3, 1) := by decide +kernel
theorem dX2_run_43 : decode cX2_run 43 = .ok (.iload_n 3, 1) := by decide +kernel
theorem dX2_run_44 : decode cX2_run 44 = .ok (.aload_n 0, 1) := by decide +kernel
theorem dX2_run_45 : decode cX2_run 45 = .ok (.getfield 15, 3) := by decide +kernel
theorem dX2_run_48 : decode cX2_run 48 = .ok (.getfield 60, 3) := by decide +kernel
theorem dX2_run_51 : decode cX2_run 51 = .ok (.if_icmp .ge 19, 3) := by decide +kernel
theorem dX2_run_54 : decode cX2_run 54 = .ok (.aload_n 0, 1) := by decide +kernel
theorem dX2_run_55 : decode cX2_run 55 = .ok (.iload_n 3, 1) := by decide +kernel
theorem dX2_run_56 : decode cX2_run 56 = .ok (.invokevirtual 63, 3) := by decide +kernel
theorem dX2_run_59 : decode cX2_run 59 = .ok (.aload_n 0, 1) := by decide +kernel
theorem dX2_run_60 : decode cX2_run 60 = .ok (.iload_n 3, 1) := by decide +kernel
theorem dX2_run_61 : decode cX2_run 61 = .ok (.invokevirtual 66, 3) := by decide +kernel
theorem dX2_run_64 : decode cX2_run 64 = .ok (.iinc 3 1, 3) := by decide +kernel
theorem dX2_run_67 : decode cX2_run 67 = .ok (.goto (-24), 3) := by decide +kernel
theorem dX2_run_70 : decode cX2_run 70 = .ok (.aload_n 0, 1) := by decide +kernel
theorem dX2_run_71 : decode cX2_run 71 = .ok (.invokevirtual 69, 3) := by decide +kernel
theorem dX2_run_74 : decode cX2_run 74 = .ok (.aload_n 0, 1) := by decide +kernel
theorem dX2_run_75 : decode cX2_run 75 = .ok (.getfield 19, 3) := by decide +kernel
theorem dX2_run_78 : decode cX2_run 78 = .ok (.getfield 45, 3) := by decide +kernel
theorem dX2_run_81 : decode cX2_run 81 = .ok (.iconst 1, 1) := by decide +kernel
theorem dX2_run_82 : decode cX2_run 82 = .ok (.iaload, 1) := by decide +kernel
theorem dX2_run_83 : decode cX2_run 83 = .ok (.if_icmp .gt 5, 3) := by decide +kernel
theorem dX2_run_86 : decode cX2_run 86 = .ok (.iload_n 2, 1) := by decide +kernel
theorem dX2_run_87 : decode cX2_run 87 = .ok (.ireturn, 1) := by decide +kernel
theorem dX2_run_88 : decode cX2_run 88 = .ok (.iinc 2 1, 3) := by decide +kernel
theorem dX2_run_91 : decode cX2_run 91 = .ok (.goto (-55), 3) := by decide +kernel
theorem dX2_run_94 : decode cX2_run 94 = .ok (.iload_n 1, 1) := by decide +kernel
theorem dX2_run_95 : decode cX2_run 95 = .ok (.bipush 100, 2) := by decide +kernel
theorem dX2_run_97 : decode cX2_run 97 = .ok (.isub, 1) := by decide +kernel
theorem dX2_run_98 : decode cX2_run 98 = .ok (.ireturn, 1) := by decide +kernel
theorem dX2_alike_0 : decode cX2_alike 0 = .ok (.iload_n 0, 1) := by decide +kernel
theorem dX2_alike_1 : decode cX2_alike 1 = .ok (.ifCond .le 10, 3) := by decide +kernel
theorem dX2_alike_4 : decode cX2_alike 4 = .ok (.ldc 73, 2) := by decide +kernel
theorem dX2_alike_6 : decode cX2_alike 6 = .ok (.iload_n 0, 1) := by decide +kernel
theorem dX2_alike_7 : decode cX2_alike 7 = .ok (.idiv, 1) := by decide +kernel
theorem dX2_alike_8 : decode cX2_alike 8 = .ok (.goto 4, 3) := by decide +kernel
theorem dX2_alike_11 : decode cX2_alike 11 = .ok (.iconst 0, 1) := by decide +kernel
theorem dX2_alike_12 : decode cX2_alike 12 = .ok (.ireturn, 1) := by decide +kernel
theorem dX2_startAlike_0 : decode cX2_startAlike 0 = .ok (.aload_n 0, 1) := by decide +kernel
theorem dX2_startAlike_1 : decode cX2_startAlike 1 = .ok (.getfield 11, 3) := by decide +kernel
theorem dX2_startAlike_4 : decode cX2_startAlike 4 = .ok (.getfield 74, 3) := by decide +kernel
theorem dX2_startAlike_7 : decode cX2_startAlike 7 = .ok (.iload_n 1, 1) := by decide +kernel
theorem dX2_startAlike_8 : decode cX2_startAlike 8 = .ok (.iaload, 1) := by decide +kernel
theorem dX2_startAlike_9 : decode cX2_startAlike 9 = .ok (.istore_n 2, 1) := by decide +kernel
theorem dX2_startAlike_10 : decode cX2_startAlike 10 = .ok (.iconst 0, 1) := by decide +kernel
theorem dX2_startAlike_11 : decode cX2_startAlike 11 = .ok (.istore_n 3, 1) := by decide +kernel
theorem dX2_startAlike_12 : decode cX2_startAlike 12 = .ok (.iload_n 3, 1) := by decide +kernel
theorem dX2_startAlike_13 : decode cX2_startAlike 13 = .ok (.iload_n 2, 1) := by decide +kernel
theorem dX2_startAlike_14 : decode cX2_startAlike 14 = .ok (.if_icmp .ge 21, 3) := by decide +kernel
theorem dX2_startAlike_17 : decode cX2_startAlike 17 = .ok (.aload_n 0, 1) := by decide +kernel
theorem dX2_startAlike_18 : decode cX2_startAlike 18 = .ok (.getfield 25, 3) := by decide +kernel
theorem dX2_startAlike_21 : decode cX2_startAlike 21 = .ok (.iload_n 1, 1) := by decide +kernel
theorem dX2_startAlike_22 : decode cX2_startAlike 22 = .ok (.aaload, 1) := by decide +kernel
theorem dX2_startAlike_23 : decode cX2_startAlike 23 = .ok (.iload_n 3, 1) := by decide +kernel
theorem dX2_startAlike_24 : decode cX2_startAlike 24 = .ok (.iload_n 2, 1) := by decide +kernel
theorem dX2_startAlike_25 : decode cX2_startAlike 25 = .ok (.invokestatic 77, 3) := by decide +kernel
theorem dX2_startAlike_28 : decode cX2_startAlike 28 = .ok (.iastore, 1) := by decide +kernel
theorem dX2_startAlike_29 : decode cX2_startAlike 29 = .ok (.iinc 3 1, 3) := by decide +kernel
theorem dX2_startAlike_32 : decode cX2_startAlike 32 = .ok (.goto (-20), 3) := by decide +kernel
theorem dX2_startAlike_35 : decode cX2_startAlike 35 = .ok (.return_, 1) := by decide +kernel
theorem dX2_startGiven_0 : decode cX2_startGiven 0 = .ok (.aload_n 0, 1) := by decide +kernel
theorem dX2_startGiven_1 : decode cX2_startGiven 1 = .ok (.getfield 11, 3) := by decide +kernel
theorem dX2_startGiven_4 : decode cX2_startGiven 4 = .ok (.iload_n 1, 1) := by decide +kernel
theorem dX2_startGiven_5 : decode cX2_startGiven 5 = .ok (.invokevirtual 81, 3) := by decide +kernel
theorem dX2_startGiven_8 : decode cX2_startGiven 8 = .ok (.istore_n 2, 1) := by decide +kernel
theorem dX2_startGiven_9 : decode cX2_startGiven 9 = .ok (.iconst 0, 1) := by decide +kernel
theorem dX2_startGiven_10 : decode cX2_startGiven 10 = .ok (.istore_n 3, 1) := by decide +kernel
theorem dX2_startGiven_11 : decode cX2_startGiven 11 = .ok (.iload_n 3, 1) := by decide +kernel
theorem dX2_startGiven_12 : decode cX2_startGiven 12 = .ok (.aload_n 0, 1) := by decide +kernel
theorem dX2_startGiven_13 : decode cX2_startGiven 13 = .ok (.getfield 11, 3) := by decide +kernel
theorem dX2_startGiven_16 : decode cX2_startGiven 16 = .ok (.getfield 74, 3) := by decide +kernel
theorem dX2_startGiven_19 : decode cX2_startGiven 19 = .ok (.iload_n 1, 1) := by decide +kernel
theorem dX2_startGiven_20 : decode cX2_startGiven 20 = .ok (.iaload, 1) := by decide +kernel
theorem dX2_startGiven_21 : decode cX2_startGiven 21 = .ok (.if_icmp .ge 28, 3) := by decide +kernel
theorem dX2_startGiven_24 : decode cX2_startGiven 24 = .ok (.aload_n 0, 1) := by decide +kernel
theorem dX2_startGiven_25 : decode cX2_startGiven 25 = .ok (.getfield 25, 3) := by decide +kernel
theorem dX2_startGiven_28 : decode cX2_startGiven 28 = .ok (.iload_n 1, 1) := by decide +kernel
theorem dX2_startGiven_29 : decode cX2_startGiven 29 = .ok (.aaload, 1) := by decide +kernel
theorem dX2_startGiven_30 : decode cX2_startGiven 30 = .ok (.iload_n 3, 1) := by decide +kernel
theorem dX2_startGiven_31 : decode cX2_startGiven 31 = .ok (.iload_n 3, 1) := by decide +kernel
theorem dX2_startGiven_32 : decode cX2_startGiven 32 = .ok (.iload_n 2, 1) := by decide +kernel
theorem dX2_startGiven_33 : decode cX2_startGiven 33 = .ok (.if_icmp .ne 8, 3) := by decide +kernel
theorem dX2_startGiven_36 : decode cX2_startGiven 36 = .ok (.ldc 73, 2) := by decide +kernel
theorem dX2_startGiven_38 : decode cX2_startGiven 38 = .ok (.goto 4, 3) := by decide +kernel
theorem dX2_startGiven_41 : decode cX2_startGiven 41 = .ok (.iconst 0, 1) := by decide +kernel
theorem dX2_startGiven_42 : decode cX2_startGiven 42 = .ok (.iastore, 1) := by decide +kernel
theorem dX2_startGiven_43 : decode cX2_startGiven 43 = .ok (.iinc 3 1, 3) := by decide +kernel
theorem dX2_startGiven_46 : decode cX2_startGiven 46 = .ok (.goto (-35), 3) := by decide +kernel
theorem dX2_startGiven_49 : decode cX2_startGiven 49 = .ok (.return_, 1) := by decide +kernel
theorem dX2_startByAnswers_0 : decode cX2_startByAnswers 0 = .ok (.aload_n 0, 1) := by decide +kernel
theorem dX2_startByAnswers_1 : decode cX2_startByAnswers 1 = .ok (.getfield 15, 3) := by decide +kernel
theorem dX2_startByAnswers_4 : decode cX2_startByAnswers 4 = .ok (.iload_n 1, 1) := by decide +kernel
theorem dX2_startByAnswers_5 : decode cX2_startByAnswers 5 = .ok (.invokevirtual 84, 3) := by decide +kernel
theorem dX2_startByAnswers_8 : decode cX2_startByAnswers 8 = .ok (.istore_n 2, 1) := by decide +kernel
theorem dX2_startByAnswers_9 : decode cX2_startByAnswers 9 = .ok (.iload_n 2, 1) := by decide +kernel
theorem dX2_startByAnswers_10 : decode cX2_startByAnswers 10 = .ok (.ifCond .gt 9, 3) := by decide +kernel
theorem dX2_startByAnswers_13 : decode cX2_startByAnswers 13 = .ok (.aload_n 0, 1) := by decide +kernel
theorem dX2_startByAnswers_14 : decode cX2_startByAnswers 14 = .ok (.iload_n 1, 1) := by decide +kernel
theorem dX2_startByAnswers_15 : decode cX2_startByAnswers 15 = .ok (.invokevirtual 87, 3) := by decide +kernel
theorem dX2_startByAnswers_18 : decode cX2_startByAnswers 18 = .ok (.return_, 1) := by decide +kernel
theorem dX2_startByAnswers_19 : decode cX2_startByAnswers 19 = .ok (.iconst 0, 1) := by decide +kernel
theorem dX2_startByAnswers_20 : decode cX2_startByAnswers 20 = .ok (.istore_n 3, 1) := by decide +kernel
theorem dX2_startByAnswers_21 : decode cX2_startByAnswers 21 = .ok (.iload_n 3, 1) := by decide +kernel
theorem dX2_startByAnswers_22 : decode cX2_startByAnswers 22 = .ok (.aload_n 0, 1) := by decide +kernel
theorem dX2_startByAnswers_23 : decode cX2_startByAnswers 23 = .ok (.getfield 11, 3) := by decide +kernel
theorem dX2_startByAnswers_26 : decode cX2_startByAnswers 26 = .ok (.getfield 74, 3) := by decide +kernel
theorem dX2_startByAnswers_29 : decode cX2_startByAnswers 29 = .ok (.iload_n 1, 1) := by decide +kernel
theorem dX2_startByAnswers_30 : decode cX2_startByAnswers 30 = .ok (.iaload, 1) := by decide +kernel
theorem dX2_startByAnswers_31 : decode cX2_startByAnswers 31 = .ok (.if_icmp .ge 31, 3) := by decide +kernel
theorem dX2_startByAnswers_34 : decode cX2_startByAnswers 34 = .ok (.aload_n 0, 1) := by decide +kernel
theorem dX2_startByAnswers_35 : decode cX2_startByAnswers 35 = .ok (.getfield 25, 3) := by decide +kernel
theorem dX2_startByAnswers_38 : decode cX2_startByAnswers 38 = .ok (.iload_n 1, 1) := by decide +kernel
theorem dX2_startByAnswers_39 : decode cX2_startByAnswers 39 = .ok (.aaload, 1) := by decide +kernel
theorem dX2_startByAnswers_40 : decode cX2_startByAnswers 40 = .ok (.iload_n 3, 1) := by decide +kernel
theorem dX2_startByAnswers_41 : decode cX2_startByAnswers 41 = .ok (.ldc 73, 2) := by decide +kernel
theorem dX2_startByAnswers_43 : decode cX2_startByAnswers 43 = .ok (.aload_n 0, 1) := by decide +kernel
theorem dX2_startByAnswers_44 : decode cX2_startByAnswers 44 = .ok (.getfield 15, 3) := by decide +kernel
theorem dX2_startByAnswers_47 : decode cX2_startByAnswers 47 = .ok (.iload_n 1, 1) := by decide +kernel
theorem dX2_startByAnswers_48 : decode cX2_startByAnswers 48 = .ok (.iload_n 3, 1) := by decide +kernel
theorem dX2_startByAnswers_49 : decode cX2_startByAnswers 49 = .ok (.invokevirtual 90, 3) := by decide +kernel
theorem dX2_startByAnswers_52 : decode cX2_startByAnswers 52 = .ok (.imul, 1) := by decide +kernel
theorem dX2_startByAnswers_53 : decode cX2_startByAnswers 53 = .ok (.iload_n 2, 1) := by decide +kernel
theorem dX2_startByAnswers_54 : decode cX2_startByAnswers 54 = .ok (.idiv, 1) := by decide +kernel
theorem dX2_startByAnswers_55 : decode cX2_startByAnswers 55 = .ok (.iastore, 1) := by decide +kernel
theorem dX2_startByAnswers_56 : decode cX2_startByAnswers 56 = .ok (.iinc 3 1, 3) := by decide +kernel
theorem dX2_startByAnswers_59 : decode cX2_startByAnswers 59 = .ok (.goto (-38), 3) := by decide +kernel
theorem dX2_startByAnswers_62 : decode cX2_startByAnswers 62 = .ok (.return_, 1) := by decide +kernel
theorem dX2_startShares_0 : decode cX2_startShares 0 = .ok (.aload_n 0, 1) := by decide +kernel
theorem dX2_startShares_1 : decode cX2_startShares 1 = .ok (.getfield 11, 3) := by decide +kernel
theorem dX2_startShares_4 : decode cX2_startShares 4 = .ok (.iload_n 1, 1) := by decide +kernel
theorem dX2_startShares_5 : decode cX2_startShares 5 = .ok (.invokevirtual 94, 3) := by decide +kernel
theorem dX2_startShares_8 : decode cX2_startShares 8 = .ok (.ifCond .eq 11, 3) := by decide +kernel
theorem dX2_startShares_11 : decode cX2_startShares 11 = .ok (.aload_n 0, 1) := by decide +kernel
theorem dX2_startShares_12 : decode cX2_startShares 12 = .ok (.iload_n 1, 1) := by decide +kernel
theorem dX2_startShares_13 : decode cX2_startShares 13 = .ok (.invokevirtual 98, 3) := by decide +kernel
theorem dX2_startShares_16 : decode cX2_startShares 16 = .ok (.goto 8, 3) := by decide +kernel
theorem dX2_startShares_19 : decode cX2_startShares 19 = .ok (.aload_n 0, 1) := by decide +kernel
theorem dX2_startShares_20 : decode cX2_startShares 20 = .ok (.iload_n 1, 1) := by decide +kernel
theorem dX2_startShares_21 : decode cX2_startShares 21 = .ok (.invokevirtual 101, 3) := by decide +kernel
theorem dX2_startShares_24 : decode cX2_startShares 24 = .ok (.return_, 1) := by decide +kernel
theorem dX2_sumSaid_0 : decode cX2_sumSaid 0 = .ok (.iconst 0, 1) := by decide +kernel
theorem dX2_sumSaid_1 : decode cX2_sumSaid 1 = .ok (.istore_n 2, 1) := by decide +kernel
theorem dX2_sumSaid_2 : decode cX2_sumSaid 2 = .ok (.iload_n 2, 1) := by decide +kernel
theorem dX2_sumSaid_3 : decode cX2_sumSaid 3 = .ok (.bipush 48, 2) := by decide +kernel
theorem dX2_sumSaid_5 : decode cX2_sumSaid 5 = .ok (.if_icmp .ge 29, 3) := by decide +kernel
theorem dX2_sumSaid_8 : decode cX2_sumSaid 8 = .ok (.aload_n 0, 1) := by decide +kernel
theorem dX2_sumSaid_9 : decode cX2_sumSaid 9 = .ok (.getfield 31, 3) := by decide +kernel
theorem dX2_sumSaid_12 : decode cX2_sumSaid 12 = .ok (.iload_n 2, 1) := by decide +kernel
theorem dX2_sumSaid_13 : decode cX2_sumSaid 13 = .ok (.aload_n 0, 1) := by decide +kernel
theorem dX2_sumSaid_14 : decode cX2_sumSaid 14 = .ok (.getfield 19, 3) := by decide +kernel
theorem dX2_sumSaid_17 : decode cX2_sumSaid 17 = .ok (.getfield 45, 3) := by decide +kernel
theorem dX2_sumSaid_20 : decode cX2_sumSaid 20 = .ok (.iconst 0, 1) := by decide +kernel
theorem dX2_sumSaid_21 : decode cX2_sumSaid 21 = .ok (.iaload, 1) := by decide +kernel
theorem dX2_sumSaid_22 : decode cX2_sumSaid 22 = .ok (.i2l, 1) := by decide +kernel
theorem dX2_sumSaid_23 : decode cX2_sumSaid 23 = .ok (.ldc2_w 104, 3) := by decide +kernel
theorem dX2_sumSaid_26 : decode cX2_sumSaid 26 = .ok (.lmul, 1) := by decide +kernel
theorem dX2_sumSaid_27 : decode cX2_sumSaid 27 = .ok (.lastore, 1) := by decide +kernel
theorem dX2_sumSaid_28 : decode cX2_sumSaid 28 = .ok (.iinc 2 1, 3) := by decide +kernel
theorem dX2_sumSaid_31 : decode cX2_sumSaid 31 = .ok (.goto (-29), 3) := by decide +kernel
theorem dX2_sumSaid_34 : decode cX2_sumSaid 34 = .ok (.iconst 0, 1) := by decide +kernel
theorem dX2_sumSaid_35 : decode cX2_sumSaid 35 = .ok (.istore_n 2, 1) := by decide +kernel
theorem dX2_sumSaid_36 : decode cX2_sumSaid 36 = .ok (.iload_n 2, 1) := by decide +kernel
theorem dX2_sumSaid_37 : decode cX2_sumSaid 37 = .ok (.aload_n 0, 1) := by decide +kernel
theorem dX2_sumSaid_38 : decode cX2_sumSaid 38 = .ok (.getfield 11, 3) := by decide +kernel
theorem dX2_sumSaid_41 : decode cX2_sumSaid 41 = .ok (.getfield 50, 3) := by decide +kernel
theorem dX2_sumSaid_44 : decode cX2_sumSaid 44 = .ok (.if_icmp .ge 85, 3) := by decide +kernel
theorem dX2_sumSaid_47 : decode cX2_sumSaid 47 = .ok (.aload_n 0, 1) := by decide +kernel
theorem dX2_sumSaid_48 : decode cX2_sumSaid 48 = .ok (.getfield 15, 3) := by decide +kernel
theorem dX2_sumSaid_51 : decode cX2_sumSaid 51 = .ok (.iload_n 1, 1) := by decide +kernel
theorem dX2_sumSaid_52 : decode cX2_sumSaid 52 = .ok (.iload_n 2, 1) := by decide +kernel
theorem dX2_sumSaid_53 : decode cX2_sumSaid 53 = .ok (.invokevirtual 106, 3) := by decide +kernel
theorem dX2_sumSaid_56 : decode cX2_sumSaid 56 = .ok (.ifCond .eq 67, 3) := by decide +kernel
theorem dX2_sumSaid_59 : decode cX2_sumSaid 59 = .ok (.aload_n 0, 1) := by decide +kernel
theorem dX2_sumSaid_60 : decode cX2_sumSaid 60 = .ok (.getfield 11, 3) := by decide +kernel
theorem dX2_sumSaid_63 : decode cX2_sumSaid 63 = .ok (.getfield 74, 3) := by decide +kernel
theorem dX2_sumSaid_66 : decode cX2_sumSaid 66 = .ok (.iload_n 2, 1) := by decide +kernel
theorem dX2_sumSaid_67 : decode cX2_sumSaid 67 = .ok (.iaload, 1) := by decide +kernel
theorem dX2_sumSaid_68 : decode cX2_sumSaid 68 = .ok (.istore_n 3, 1) := by decide +kernel
theorem dX2_sumSaid_69 : decode cX2_sumSaid 69 = .ok (.aload_n 0, 1) := by decide +kernel
theorem dX2_sumSaid_70 : decode cX2_sumSaid 70 = .ok (.getfield 15, 3) := by decide +kernel
theorem dX2_sumSaid_73 : decode cX2_sumSaid 73 = .ok (.getfield 110, 3) := by decide +kernel
theorem dX2_sumSaid_76 : decode cX2_sumSaid 76 = .ok (.iload_n 1, 1) := by decide +kernel
theorem dX2_sumSaid_77 : decode cX2_sumSaid 77 = .ok (.aaload, 1) := by decide +kernel
theorem dX2_sumSaid_78 : decode cX2_sumSaid 78 = .ok (.iload_n 2, 1) := by decide +kernel
theorem dX2_sumSaid_79 : decode cX2_sumSaid 79 = .ok (.iaload, 1) := by decide +kernel
theorem dX2_sumSaid_80 : decode cX2_sumSaid 80 = .ok (.istore 4, 2) := by decide +kernel
theorem dX2_sumSaid_82 : decode cX2_sumSaid 82 = .ok (.iconst 0, 1) := by decide +kernel
theorem dX2_sumSaid_83 : decode cX2_sumSaid 83 = .ok (.istore 5, 2) := by decide +kernel
theorem dX2_sumSaid_85 : decode cX2_sumSaid 85 = .ok (.iload 5, 2) := by decide +kernel
theorem dX2_sumSaid_87 : decode cX2_sumSaid 87 = .ok (.iload_n 3, 1) := by decide +kernel
theorem dX2_sumSaid_88 : decode cX2_sumSaid 88 = .ok (.if_icmp .ge 35, 3) := by decide +kernel
theorem dX2_sumSaid_91 : decode cX2_sumSaid 91 = .ok (.aload_n 0, 1) := by decide +kernel
theorem dX2_sumSaid_92 : decode cX2_sumSaid 92 = .ok (.getfield 31, 3) := by decide +kernel
theorem dX2_sumSaid_95 : decode cX2_sumSaid 95 = .ok (.iload_n 3, 1) := by decide +kernel
theorem dX2_sumSaid_96 : decode cX2_sumSaid 96 = .ok (.iload 5, 2) := by decide +kernel
theorem dX2_sumSaid_98 : decode cX2_sumSaid 98 = .ok (.iload 4, 2) := by decide +kernel
theorem dX2_sumSaid_100 : decode cX2_sumSaid 100 = .ok (.invokestatic 113, 3) := by decide +kernel
theorem dX2_sumSaid_103 : decode cX2_sumSaid 103 = .ok (.dup2, 1) := by decide +kernel
theorem dX2_sumSaid_104 : decode cX2_sumSaid 104 = .ok (.laload, 1) := by decide +kernel
theorem dX2_sumSaid_105 : decode cX2_sumSaid 105 = .ok (.aload_n 0, 1) := by decide +kernel
theorem dX2_sumSaid_106 : decode cX2_sumSaid 106 = .ok (.getfield 25, 3) := by decide +kernel
theorem dX2_sumSaid_109 : decode cX2_sumSaid 109 = .ok (.iload_n 2, 1) := by decide +kernel
theorem dX2_sumSaid_110 : decode cX2_sumSaid 110 = .ok (.aaload, 1) := by decide +kernel
theorem dX2_sumSaid_111 : decode cX2_sumSaid 111 = .ok (.iload 5, 2) := by decide +kernel
theorem dX2_sumSaid_113 : decode cX2_sumSaid 113 = .ok (.iaload, 1) := by decide +kernel
theorem dX2_sumSaid_114 : decode cX2_sumSaid 114 = .ok (.i2l, 1) := by decide +kernel
theorem dX2_sumSaid_115 : decode cX2_sumSaid 115 = .ok (.ladd, 1) := by decide +kernel
theorem dX2_sumSaid_116 : decode cX2_sumSaid 116 = .ok (.lastore, 1) := by decide +kernel
theorem dX2_sumSaid_117 : decode cX2_sumSaid 117 = .ok (.iinc 5 1, 3) := by decide +kernel
theorem dX2_sumSaid_120 : decode cX2_sumSaid 120 = .ok (.goto (-35), 3) := by decide +kernel
theorem dX2_sumSaid_123 : decode cX2_sumSaid 123 = .ok (.iinc 2 1, 3) := by decide +kernel
theorem dX2_sumSaid_126 : decode cX2_sumSaid 126 = .ok (.goto (-90), 3) := by decide +kernel
theorem dX2_sumSaid_129 : decode cX2_sumSaid 129 = .ok (.return_, 1) := by decide +kernel
theorem dX2_fillTables_0 : decode cX2_fillTables 0 = .ok (.iconst 2, 1) := by decide +kernel
theorem dX2_fillTables_1 : decode cX2_fillTables 1 = .ok (.istore_n 2, 1) := by decide +kernel
theorem dX2_fillTables_2 : decode cX2_fillTables 2 = .ok (.iload_n 2, 1) := by decide +kernel
theorem dX2_fillTables_3 : decode cX2_fillTables 3 = .ok (.iconst 4, 1) := by decide +kernel
theorem dX2_fillTables_4 : decode cX2_fillTables 4 = .ok (.if_icmp .gt 29, 3) := by decide +kernel
theorem dX2_fillTables_7 : decode cX2_fillTables 7 = .ok (.iconst 0, 1) := by decide +kernel
theorem dX2_fillTables_8 : decode cX2_fillTables 8 = .ok (.istore_n 3, 1) := by decide +kernel
theorem dX2_fillTables_9 : decode cX2_fillTables 9 = .ok (.iload_n 3, 1) := by decide +kernel
theorem dX2_fillTables_10 : decode cX2_fillTables 10 = .ok (.iload_n 2, 1) := by decide +kernel
theorem dX2_fillTables_11 : decode cX2_fillTables 11 = .ok (.if_icmp .ge 16, 3) := by decide +kernel
theorem dX2_fillTables_14 : decode cX2_fillTables 14 = .ok (.aload_n 0, 1) := by decide +kernel
theorem dX2_fillTables_15 : decode cX2_fillTables 15 = .ok (.iload_n 1, 1) := by decide +kernel
theorem dX2_fillTables_16 : decode cX2_fillTables 16 = .ok (.iload_n 2, 1) := by decide +kernel
theorem dX2_fillTables_17 : decode cX2_fillTables 17 = .ok (.iload_n 3, 1) := by decide +kernel
theorem dX2_fillTables_18 : decode cX2_fillTables 18 = .ok (.invokevirtual 117, 3) := by decide +kernel
theorem dX2_fillTables_21 : decode cX2_fillTables 21 = .ok (.iinc 3 1, 3) := by decide +kernel
theorem dX2_fillTables_24 : decode cX2_fillTables 24 = .ok (.goto (-15), 3) := by decide +kernel
theorem dX2_fillTables_27 : decode cX2_fillTables 27 = .ok (.iinc 2 1, 3) := by decide +kernel
theorem dX2_fillTables_30 : decode cX2_fillTables 30 = .ok (.goto (-28), 3) := by decide +kernel
theorem dX2_fillTables_33 : decode cX2_fillTables 33 = .ok (.return_, 1) := by decide +kernel
theorem dX2_fillLine_0 : decode cX2_fillLine 0 = .ok (.lconst 0, 1) := by decide +kernel
theorem dX2_fillLine_1 : decode cX2_fillLine 1 = .ok (.lstore 4, 2) := by decide +kernel
theorem dX2_fillLine_3 : decode cX2_fillLine 3 = .ok (.iconst 0, 1) := by decide +kernel
theorem dX2_fillLine_4 : decode cX2_fillLine 4 = .ok (.istore 6, 2) := by decide +kernel
theorem dX2_fillLine_6 : decode cX2_fillLine 6 = .ok (.iload 6, 2) := by decide +kernel
theorem dX2_fillLine_8 : decode cX2_fillLine 8 = .ok (.iload_n 2, 1) := by decide +kernel
theorem dX2_fillLine_9 : decode cX2_fillLine 9 = .ok (.if_icmp .ge 26, 3) := by decide +kernel
theorem dX2_fillLine_12 : decode cX2_fillLine 12 = .ok (.lload 4, 2) := by decide +kernel
theorem dX2_fillLine_14 : decode cX2_fillLine 14 = .ok (.aload_n 0, 1) := by decide +kernel
theorem dX2_fillLine_15 : decode cX2_fillLine 15 = .ok (.getfield 31, 3) := by decide +kernel
theorem dX2_fillLine_18 : decode cX2_fillLine 18 = .ok (.iload_n 2, 1) := by decide +kernel
theorem dX2_fillLine_19 : decode cX2_fillLine 19 = .ok (.iload_n 3, 1) := by decide +kernel
theorem dX2_fillLine_20 : decode cX2_fillLine 20 = .ok (.iload 6, 2) := by decide +kernel
theorem dX2_fillLine_22 : decode cX2_fillLine 22 = .ok (.invokestatic 113, 3) := by decide +kernel
theorem dX2_fillLine_25 : decode cX2_fillLine 25 = .ok (.laload, 1) := by decide +kernel
theorem dX2_fillLine_26 : decode cX2_fillLine 26 = .ok (.ladd, 1) := by decide +kernel
theorem dX2_fillLine_27 : decode cX2_fillLine 27 = .ok (.lstore 4, 2) := by decide +kernel
theorem dX2_fillLine_29 : decode cX2_fillLine 29 = .ok (.iinc 6 1, 3) := by decide +kernel
theorem dX2_fillLine_32 : decode cX2_fillLine 32 = .ok (.goto (-26), 3) := by decide +kernel
theorem dX2_fillLine_35 : decode cX2_fillLine 35 = .ok (.lload 4, 2) := by decide +kernel
theorem dX2_fillLine_37 : decode cX2_fillLine 37 = .ok (.lconst 0, 1) := by decide +kernel
theorem dX2_fillLine_38 : decode cX2_fillLine 38 = .ok (.lcmp, 1) := by decide +kernel
theorem dX2_fillLine_39 : decode cX2_fillLine 39 = .ok (.ifCond .gt 4, 3) := by decide +kernel
theorem dX2_fillLine_42 : decode cX2_fillLine 42 = .ok (.return_, 1) := by decide +kernel
theorem dX2_fillLine_43 : decode cX2_fillLine 43 = .ok (.iconst 0, 1) := by decide +kernel
theorem dX2_fillLine_44 : decode cX2_fillLine 44 = .ok (.istore 6, 2) := by decide +kernel
theorem dX2_fillLine_46 : decode cX2_fillLine 46 = .ok (.iload 6, 2) := by decide +kernel
theorem dX2_fillLine_48 : decode cX2_fillLine 48 = .ok (.iload_n 2, 1) := by decide +kernel
theorem dX2_fillLine_49 : decode cX2_fillLine 49 = .ok (.if_icmp .ge 43, 3) := by decide +kernel
theorem dX2_fillLine_52 : decode cX2_fillLine 52 = .ok (.aload_n 0, 1) := by decide +kernel
theorem dX2_fillLine_53 : decode cX2_fillLine 53 = .ok (.getfield 28, 3) := by decide +kernel
theorem dX2_fillLine_56 : decode cX2_fillLine 56 = .ok (.iload_n 1, 1) := by decide +kernel
theorem dX2_fillLine_57 : decode cX2_fillLine 57 = .ok (.aaload, 1) := by decide +kernel
theorem dX2_fillLine_58 : decode cX2_fillLine 58 = .ok (.iload_n 2, 1) := by decide +kernel
theorem dX2_fillLine_59 : decode cX2_fillLine 59 = .ok (.iload_n 3, 1) := by decide +kernel
theorem dX2_fillLine_60 : decode cX2_fillLine 60 = .ok (.iload 6, 2) := by decide +kernel
theorem dX2_fillLine_62 : decode cX2_fillLine 62 = .ok (.invokestatic 113, 3) := by decide +kernel
theorem dX2_fillLine_65 : decode cX2_fillLine 65 = .ok (.ldc2_w 121, 3) := by decide +kernel
theorem dX2_fillLine_68 : decode cX2_fillLine 68 = .ok (.aload_n 0, 1) := by decide +kernel
theorem dX2_fillLine_69 : decode cX2_fillLine 69 = .ok (.getfield 31, 3) := by decide +kernel
theorem dX2_fillLine_72 : decode cX2_fillLine 72 = .ok (.iload_n 2, 1) := by decide +kernel
theorem dX2_fillLine_73 : decode cX2_fillLine 73 = .ok (.iload_n 3, 1) := by decide +kernel
theorem dX2_fillLine_74 : decode cX2_fillLine 74 = .ok (.iload 6, 2) := by decide +kernel
theorem dX2_fillLine_76 : decode cX2_fillLine 76 = .ok (.invokestatic 113, 3) := by decide +kernel
theorem dX2_fillLine_79 : decode cX2_fillLine 79 = .ok (.laload, 1) := by decide +kernel
theorem dX2_fillLine_80 : decode cX2_fillLine 80 = .ok (.lmul, 1) := by decide +kernel
theorem dX2_fillLine_81 : decode cX2_fillLine 81 = .ok (.lload 4, 2) := by decide +kernel
theorem dX2_fillLine_83 : decode cX2_fillLine 83 = .ok (.ldiv, 1) := by decide +kernel
theorem dX2_fillLine_84 : decode cX2_fillLine 84 = .ok (.l2i, 1) := by decide +kernel
theorem dX2_fillLine_85 : decode cX2_fillLine 85 = .ok (.iastore, 1) := by decide +kernel
theorem dX2_fillLine_86 : decode cX2_fillLine 86 = .ok (.iinc 6 1, 3) := by decide +kernel
theorem dX2_fillLine_89 : decode cX2_fillLine 89 = .ok (.goto (-43), 3) := by decide +kernel
theorem dX2_fillLine_92 : decode cX2_fillLine 92 = .ok (.return_, 1) := by decide +kernel
theorem dX2_renewAll_0 : decode cX2_renewAll 0 = .ok (.iconst 0, 1) := by decide +kernel
theorem dX2_renewAll_1 : decode cX2_renewAll 1 = .ok (.istore_n 1, 1) := by decide +kernel
theorem dX2_renewAll_2 : decode cX2_renewAll 2 = .ok (.iconst 0, 1) := by decide +kernel
theorem dX2_renewAll_3 : decode cX2_renewAll 3 = .ok (.istore_n 2, 1) := by decide +kernel
theorem dX2_renewAll_4 : decode cX2_renewAll 4 = .ok (.iload_n 2, 1) := by decide +kernel
theorem dX2_renewAll_5 : decode cX2_renewAll 5 = .ok (.aload_n 0, 1) := by decide +kernel
theorem dX2_renewAll_6 : decode cX2_renewAll 6 = .ok (.getfield 11, 3) := by decide +kernel
theorem dX2_renewAll_9 : decode cX2_renewAll 9 = .ok (.getfield 50, 3) := by decide +kernel
theorem dX2_renewAll_12 : decode cX2_renewAll 12 = .ok (.if_icmp .ge 46, 3) := by decide +kernel
theorem dX2_renewAll_15 : decode cX2_renewAll 15 = .ok (.aload_n 0, 1) := by decide +kernel
theorem dX2_renewAll_16 : decode cX2_renewAll 16 = .ok (.getfield 11, 3) := by decide +kernel
theorem dX2_renewAll_19 : decode cX2_renewAll 19 = .ok (.iload_n 2, 1) := by decide +kernel
theorem dX2_renewAll_20 : decode cX2_renewAll 20 = .ok (.invokevirtual 94, 3) := by decide +kernel
theorem dX2_renewAll_23 : decode cX2_renewAll 23 = .ok (.ifCond .eq 29, 3) := by decide +kernel
theorem dX2_renewAll_26 : decode cX2_renewAll 26 = .ok (.aload_n 0, 1) := by decide +kernel
theorem dX2_renewAll_27 : decode cX2_renewAll 27 = .ok (.getfield 15, 3) := by decide +kernel
theorem dX2_renewAll_30 : decode cX2_renewAll 30 = .ok (.iload_n 2, 1) := by decide +kernel
theorem dX2_renewAll_31 : decode cX2_renewAll 31 = .ok (.invokevirtual 84, 3) := by decide +kernel
theorem dX2_renewAll_34 : decode cX2_renewAll 34 = .ok (.ifCond .le 18, 3) := by decide +kernel
theorem dX2_renewAll_37 : decode cX2_renewAll 37 = .ok (.aload_n 0, 1) := by decide +kernel
theorem dX2_renewAll_38 : decode cX2_renewAll 38 = .ok (.iload_n 2, 1) := by decide +kernel
theorem dX2_renewAll_39 : decode cX2_renewAll 39 = .ok (.invokevirtual 123, 3) := by decide +kernel
theorem dX2_renewAll_42 : decode cX2_renewAll 42 = .ok (.iload_n 1, 1) := by decide +kernel
theorem dX2_renewAll_43 : decode cX2_renewAll 43 = .ok (.aload_n 0, 1) := by decide +kernel
theorem dX2_renewAll_44 : decode cX2_renewAll 44 = .ok (.iload_n 2, 1) := by decide +kernel
theorem dX2_renewAll_45 : decode cX2_renewAll 45 = .ok (.invokevirtual 126, 3) := by decide +kernel
theorem dX2_renewAll_48 : decode cX2_renewAll 48 = .ok (.invokestatic 129, 3) := by decide +kernel
theorem dX2_renewAll_51 : decode cX2_renewAll 51 = .ok (.istore_n 1, 1) := by decide +kernel
theorem dX2_renewAll_52 : decode cX2_renewAll 52 = .ok (.iinc 2 1, 3) := by decide +kernel
theorem dX2_renewAll_55 : decode cX2_renewAll 55 = .ok (.goto (-51), 3) := by decide +kernel
theorem dX2_renewAll_58 : decode cX2_renewAll 58 = .ok (.iload_n 1, 1) := by decide +kernel
theorem dX2_renewAll_59 : decode cX2_renewAll 59 = .ok (.ireturn, 1) := by decide +kernel
theorem dX2_weighAnswers_0 : decode cX2_weighAnswers 0 = .ok (.aload_n 0, 1) := by decide +kernel
theorem dX2_weighAnswers_1 : decode cX2_weighAnswers 1 = .ok (.getfield 11, 3) := by decide +kernel
theorem dX2_weighAnswers_4 : decode cX2_weighAnswers 4 = .ok (.getfield 74, 3) := by decide +kernel
theorem dX2_weighAnswers_7 : decode cX2_weighAnswers 7 = .ok (.iload_n 1, 1) := by decide +kernel
theorem dX2_weighAnswers_8 : decode cX2_weighAnswers 8 = .ok (.iaload, 1) := by decide +kernel
theorem dX2_weighAnswers_9 : decode cX2_weighAnswers 9 = .ok (.istore_n 2, 1) := by decide +kernel
theorem dX2_weighAnswers_10 : decode cX2_weighAnswers 10 = .ok (.iconst 0, 1) := by decide +kernel
theorem dX2_weighAnswers_11 : decode cX2_weighAnswers 11 = .ok (.istore_n 3, 1) := by decide +kernel
theorem dX2_weighAnswers_12 : decode cX2_weighAnswers 12 = .ok (.iload_n 3, 1) := by decide +kernel
theorem dX2_weighAnswers_13 : decode cX2_weighAnswers 13 = .ok (.iload_n 2, 1) := by decide +kernel
theorem dX2_weighAnswers_14 : decode cX2_weighAnswers 14 = .ok (.if_icmp .ge 20, 3) := by decide +kernel
theorem dX2_weighAnswers_17 : decode cX2_weighAnswers 17 = .ok (.aload_n 0, 1) := by decide +kernel
theorem dX2_weighAnswers_18 : decode cX2_weighAnswers 18 = .ok (.getfield 35, 3) := by decide +kernel
theorem dX2_weighAnswers_21 : decode cX2_weighAnswers 21 = .ok (.iload_n 3, 1) := by decide +kernel
theorem dX2_weighAnswers_22 : decode cX2_weighAnswers 22 = .ok (.iload_n 2, 1) := by decide +kernel
theorem dX2_weighAnswers_23 : decode cX2_weighAnswers 23 = .ok (.invokestatic 77, 3) := by decide +kernel
theorem dX2_weighAnswers_26 : decode cX2_weighAnswers 26 = .ok (.i2l, 1) := by decide +kernel
theorem dX2_weighAnswers_27 : decode cX2_weighAnswers 27 = .ok (.lastore, 1) := by decide +kernel
theorem dX2_weighAnswers_28 : decode cX2_weighAnswers 28 = .ok (.iinc 3 1, 3) := by decide +kernel
theorem dX2_weighAnswers_31 : decode cX2_weighAnswers 31 = .ok (.goto (-19), 3) := by decide +kernel
theorem dX2_weighAnswers_34 : decode cX2_weighAnswers 34 = .ok (.iconst 0, 1) := by decide +kernel
theorem dX2_weighAnswers_35 : decode cX2_weighAnswers 35 = .ok (.istore_n 3, 1) := by decide +kernel
theorem dX2_weighAnswers_36 : decode cX2_weighAnswers 36 = .ok (.iload_n 3, 1) := by decide +kernel
theorem dX2_weighAnswers_37 : decode cX2_weighAnswers 37 = .ok (.aload_n 0, 1) := by decide +kernel
theorem dX2_weighAnswers_38 : decode cX2_weighAnswers 38 = .ok (.getfield 15, 3) := by decide +kernel
theorem dX2_weighAnswers_41 : decode cX2_weighAnswers 41 = .ok (.getfield 60, 3) := by decide +kernel
theorem dX2_weighAnswers_44 : decode cX2_weighAnswers 44 = .ok (.if_icmp .ge 38, 3) := by decide +kernel
theorem dX2_weighAnswers_47 : decode cX2_weighAnswers 47 = .ok (.aload_n 0, 1) := by decide +kernel
theorem dX2_weighAnswers_48 : decode cX2_weighAnswers 48 = .ok (.getfield 15, 3) := by decide +kernel
theorem dX2_weighAnswers_51 : decode cX2_weighAnswers 51 = .ok (.iload_n 3, 1) := by decide +kernel
theorem dX2_weighAnswers_52 : decode cX2_weighAnswers 52 = .ok (.iload_n 1, 1) := by decide +kernel
theorem dX2_weighAnswers_53 : decode cX2_weighAnswers 53 = .ok (.invokevirtual 106, 3) := by decide +kernel
theorem dX2_weighAnswers_56 : decode cX2_weighAnswers 56 = .ok (.ifCond .eq 20, 3) := by decide +kernel
theorem dX2_weighAnswers_59 : decode cX2_weighAnswers 59 = .ok (.aload_n 0, 1) := by decide +kernel
theorem dX2_weighAnswers_60 : decode cX2_weighAnswers 60 = .ok (.iload_n 3, 1) := by decide +kernel
theorem dX2_weighAnswers_61 : decode cX2_weighAnswers 61 = .ok (.iload_n 2, 1) := by decide +kernel
theorem dX2_weighAnswers_62 : decode cX2_weighAnswers 62 = .ok (.aload_n 0, 1) := by decide +kernel
theorem dX2_weighAnswers_63 : decode cX2_weighAnswers 63 = .ok (.getfield 15, 3) := by decide +kernel
theorem dX2_weighAnswers_66 : decode cX2_weighAnswers 66 = .ok (.getfield 110, 3) := by decide +kernel
theorem dX2_weighAnswers_69 : decode cX2_weighAnswers 69 = .ok (.iload_n 3, 1) := by decide +kernel
theorem dX2_weighAnswers_70 : decode cX2_weighAnswers 70 = .ok (.aaload, 1) := by decide +kernel
theorem dX2_weighAnswers_71 : decode cX2_weighAnswers 71 = .ok (.iload_n 1, 1) := by decide +kernel
theorem dX2_weighAnswers_72 : decode cX2_weighAnswers 72 = .ok (.iaload, 1) := by decide +kernel
theorem dX2_weighAnswers_73 : decode cX2_weighAnswers 73 = .ok (.invokevirtual 134, 3) := by decide +kernel
theorem dX2_weighAnswers_76 : decode cX2_weighAnswers 76 = .ok (.iinc 3 1, 3) := by decide +kernel
theorem dX2_weighAnswers_79 : decode cX2_weighAnswers 79 = .ok (.goto (-43), 3) := by decide +kernel
theorem dX2_weighAnswers_82 : decode cX2_weighAnswers 82 = .ok (.return_, 1) := by decide +kernel
theorem dX2_weigh_0 : decode cX2_weigh 0 = .ok (.lconst 0, 1) := by decide +kernel
theorem dX2_weigh_1 : decode cX2_weigh 1 = .ok (.lstore 4, 2) := by decide +kernel
theorem dX2_weigh_3 : decode cX2_weigh 3 = .ok (.iconst 0, 1) := by decide +kernel
theorem dX2_weigh_4 : decode cX2_weigh 4 = .ok (.istore 6, 2) := by decide +kernel
theorem dX2_weigh_6 : decode cX2_weigh 6 = .ok (.iload 6, 2) := by decide +kernel
theorem dX2_weigh_8 : decode cX2_weigh 8 = .ok (.iload_n 2, 1) := by decide +kernel
theorem dX2_weigh_9 : decode cX2_weigh 9 = .ok (.if_icmp .ge 51, 3) := by decide +kernel
theorem dX2_weigh_12 : decode cX2_weigh 12 = .ok (.aload_n 0, 1) := by decide +kernel
theorem dX2_weigh_13 : decode cX2_weigh 13 = .ok (.getfield 38, 3) := by decide +kernel
theorem dX2_weigh_16 : decode cX2_weigh 16 = .ok (.iload 6, 2) := by decide +kernel
theorem dX2_weigh_18 : decode cX2_weigh 18 = .ok (.aload_n 0, 1) := by decide +kernel
theorem dX2_weigh_19 : decode cX2_weigh 19 = .ok (.getfield 35, 3) := by decide +kernel
theorem dX2_weigh_22 : decode cX2_weigh 22 = .ok (.iload 6, 2) := by decide +kernel
theorem dX2_weigh_24 : decode cX2_weigh 24 = .ok (.laload, 1) := by decide +kernel
theorem dX2_weigh_25 : decode cX2_weigh 25 = .ok (.aload_n 0, 1) := by decide +kernel
theorem dX2_weigh_26 : decode cX2_weigh 26 = .ok (.getfield 28, 3) := by decide +kernel
theorem dX2_weigh_29 : decode cX2_weigh 29 = .ok (.iload_n 1, 1) := by decide +kernel
theorem dX2_weigh_30 : decode cX2_weigh 30 = .ok (.aaload, 1) := by decide +kernel
theorem dX2_weigh_31 : decode cX2_weigh 31 = .ok (.iload_n 2, 1) := by decide +kernel
theorem dX2_weigh_32 : decode cX2_weigh 32 = .ok (.iload 6, 2) := by decide +kernel
theorem dX2_weigh_34 : decode cX2_weigh 34 = .ok (.iload_n 3, 1) := by decide +kernel
theorem dX2_weigh_35 : decode cX2_weigh 35 = .ok (.invokestatic 113, 3) := by decide +kernel
theorem dX2_weigh_38 : decode cX2_weigh 38 = .ok (.iaload, 1) := by decide +kernel
theorem dX2_weigh_39 : decode cX2_weigh 39 = .ok (.i2l, 1) := by decide +kernel
theorem dX2_weigh_40 : decode cX2_weigh 40 = .ok (.lmul, 1) := by decide +kernel
theorem dX2_weigh_41 : decode cX2_weigh 41 = .ok (.lastore, 1) := by decide +kernel
theorem dX2_weigh_42 : decode cX2_weigh 42 = .ok (.lload 4, 2) := by decide +kernel
theorem dX2_weigh_44 : decode cX2_weigh 44 = .ok (.aload_n 0, 1) := by decide +kernel
theorem dX2_weigh_45 : decode cX2_weigh 45 = .ok (.getfield 38, 3) := by decide +kernel
theorem dX2_weigh_48 : decode cX2_weigh 48 = .ok (.iload 6, 2) := by decide +kernel
theorem dX2_weigh_50 : decode cX2_weigh 50 = .ok (.laload, 1) := by decide +kernel
theorem dX2_weigh_51 : decode cX2_weigh 51 = .ok (.ladd, 1) := by decide +kernel
theorem dX2_weigh_52 : decode cX2_weigh 52 = .ok (.lstore 4, 2) := by decide +kernel
theorem dX2_weigh_54 : decode cX2_weigh 54 = .ok (.iinc 6 1, 3) := by decide +kernel
theorem dX2_weigh_57 : decode cX2_weigh 57 = .ok (.goto (-51), 3) := by decide +kernel
theorem dX2_weigh_60 : decode cX2_weigh 60 = .ok (.lload 4, 2) := by decide +kernel
theorem dX2_weigh_62 : decode cX2_weigh 62 = .ok (.lconst 0, 1) := by decide +kernel
theorem dX2_weigh_63 : decode cX2_weigh 63 = .ok (.lcmp, 1) := by decide +kernel
theorem dX2_weigh_64 : decode cX2_weigh 64 = .ok (.ifCond .gt 4, 3) := by decide +kernel
theorem dX2_weigh_67 : decode cX2_weigh 67 = .ok (.return_, 1) := by decide +kernel
theorem dX2_weigh_68 : decode cX2_weigh 68 = .ok (.iconst 0, 1) := by decide +kernel
theorem dX2_weigh_69 : decode cX2_weigh 69 = .ok (.istore 6, 2) := by decide +kernel
theorem dX2_weigh_71 : decode cX2_weigh 71 = .ok (.iload 6, 2) := by decide +kernel
theorem dX2_weigh_73 : decode cX2_weigh 73 = .ok (.iload_n 2, 1) := by decide +kernel
theorem dX2_weigh_74 : decode cX2_weigh 74 = .ok (.if_icmp .ge 30, 3) := by decide +kernel
theorem dX2_weigh_77 : decode cX2_weigh 77 = .ok (.aload_n 0, 1) := by decide +kernel
theorem dX2_weigh_78 : decode cX2_weigh 78 = .ok (.getfield 35, 3) := by decide +kernel
theorem dX2_weigh_81 : decode cX2_weigh 81 = .ok (.iload 6, 2) := by decide +kernel
theorem dX2_weigh_83 : decode cX2_weigh 83 = .ok (.aload_n 0, 1) := by decide +kernel
theorem dX2_weigh_84 : decode cX2_weigh 84 = .ok (.getfield 38, 3) := by decide +kernel
theorem dX2_weigh_87 : decode cX2_weigh 87 = .ok (.iload 6, 2) := by decide +kernel
theorem dX2_weigh_89 : decode cX2_weigh 89 = .ok (.laload, 1) := by decide +kernel
theorem dX2_weigh_90 : decode cX2_weigh 90 = .ok (.ldc2_w 137, 3) := by decide +kernel
theorem dX2_weigh_93 : decode cX2_weigh 93 = .ok (.lmul, 1) := by decide +kernel
theorem dX2_weigh_94 : decode cX2_weigh 94 = .ok (.lload 4, 2) := by decide +kernel
theorem dX2_weigh_96 : decode cX2_weigh 96 = .ok (.ldiv, 1) := by decide +kernel
theorem dX2_weigh_97 : decode cX2_weigh 97 = .ok (.lastore, 1) := by decide +kernel
theorem dX2_weigh_98 : decode cX2_weigh 98 = .ok (.iinc 6 1, 3) := by decide +kernel
theorem dX2_weigh_101 : decode cX2_weigh 101 = .ok (.goto (-30), 3) := by decide +kernel
theorem dX2_weigh_104 : decode cX2_weigh 104 = .ok (.return_, 1) := by decide +kernel
theorem dX2_takeFresh_0 : decode cX2_takeFresh 0 = .ok (.iconst 0, 1) := by decide +kernel
theorem dX2_takeFresh_1 : decode cX2_takeFresh 1 = .ok (.istore_n 2, 1) := by decide +kernel
theorem dX2_takeFresh_2 : decode cX2_takeFresh 2 = .ok (.iconst 0, 1) := by decide +kernel
theorem dX2_takeFresh_3 : decode cX2_takeFresh 3 = .ok (.istore_n 3, 1) := by decide +kernel
theorem dX2_takeFresh_4 : decode cX2_takeFresh 4 = .ok (.iload_n 3, 1) := by decide +kernel
theorem dX2_takeFresh_5 : decode cX2_takeFresh 5 = .ok (.aload_n 0, 1) := by decide +kernel
theorem dX2_takeFresh_6 : decode cX2_takeFresh 6 = .ok (.getfield 11, 3) := by decide +kernel
theorem dX2_takeFresh_9 : decode cX2_takeFresh 9 = .ok (.getfield 74, 3) := by decide +kernel
theorem dX2_takeFresh_12 : decode cX2_takeFresh 12 = .ok (.iload_n 1, 1) := by decide +kernel
theorem dX2_takeFresh_13 : decode cX2_takeFresh 13 = .ok (.iaload, 1) := by decide +kernel
theorem dX2_takeFresh_14 : decode cX2_takeFresh 14 = .ok (.if_icmp .ge 47, 3) := by decide +kernel
theorem dX2_takeFresh_17 : decode cX2_takeFresh 17 = .ok (.aload_n 0, 1) := by decide +kernel
theorem dX2_takeFresh_18 : decode cX2_takeFresh 18 = .ok (.getfield 35, 3) := by decide +kernel
theorem dX2_takeFresh_21 : decode cX2_takeFresh 21 = .ok (.iload_n 3, 1) := by decide +kernel
theorem dX2_takeFresh_22 : decode cX2_takeFresh 22 = .ok (.laload, 1) := by decide +kernel
theorem dX2_takeFresh_23 : decode cX2_takeFresh 23 = .ok (.l2i, 1) := by decide +kernel
theorem dX2_takeFresh_24 : decode cX2_takeFresh 24 = .ok (.istore 4, 2) := by decide +kernel
theorem dX2_takeFresh_26 : decode cX2_takeFresh 26 = .ok (.iload_n 2, 1) := by decide +kernel
theorem dX2_takeFresh_27 : decode cX2_takeFresh 27 = .ok (.iload 4, 2) := by decide +kernel
theorem dX2_takeFresh_29 : decode cX2_takeFresh 29 = .ok (.aload_n 0, 1) := by decide +kernel
theorem dX2_takeFresh_30 : decode cX2_takeFresh 30 = .ok (.getfield 25, 3) := by decide +kernel
theorem dX2_takeFresh_33 : decode cX2_takeFresh 33 = .ok (.iload_n 1, 1) := by decide +kernel
theorem dX2_takeFresh_34 : decode cX2_takeFresh 34 = .ok (.aaload, 1) := by decide +kernel
theorem dX2_takeFresh_35 : decode cX2_takeFresh 35 = .ok (.iload_n 3, 1) := by decide +kernel
theorem dX2_takeFresh_36 : decode cX2_takeFresh 36 = .ok (.iaload, 1) := by decide +kernel
theorem dX2_takeFresh_37 : decode cX2_takeFresh 37 = .ok (.isub, 1) := by decide +kernel
theorem dX2_takeFresh_38 : decode cX2_takeFresh 38 = .ok (.invokestatic 139, 3) := by decide +kernel
theorem dX2_takeFresh_41 : decode cX2_takeFresh 41 = .ok (.invokestatic 129, 3) := by decide +kernel
theorem dX2_takeFresh_44 : decode cX2_takeFresh 44 = .ok (.istore_n 2, 1) := by decide +kernel
theorem dX2_takeFresh_45 : decode cX2_takeFresh 45 = .ok (.aload_n 0, 1) := by decide +kernel
theorem dX2_takeFresh_46 : decode cX2_takeFresh 46 = .ok (.getfield 25, 3) := by decide +kernel
theorem dX2_takeFresh_49 : decode cX2_takeFresh 49 = .ok (.iload_n 1, 1) := by decide +kernel
theorem dX2_takeFresh_50 : decode cX2_takeFresh 50 = .ok (.aaload, 1) := by decide +kernel
theorem dX2_takeFresh_51 : decode cX2_takeFresh 51 = .ok (.iload_n 3, 1) := by decide +kernel
theorem dX2_takeFresh_52 : decode cX2_takeFresh 52 = .ok (.iload 4, 2) := by decide +kernel
theorem dX2_takeFresh_54 : decode cX2_takeFresh 54 = .ok (.iastore, 1) := by decide +kernel
theorem dX2_takeFresh_55 : decode cX2_takeFresh 55 = .ok (.iinc 3 1, 3) := by decide +kernel
theorem dX2_takeFresh_58 : decode cX2_takeFresh 58 = .ok (.goto (-54), 3) := by decide +kernel
theorem dX2_takeFresh_61 : decode cX2_takeFresh 61 = .ok (.iload_n 2, 1) := by decide +kernel
theorem dX2_takeFresh_62 : decode cX2_takeFresh 62 = .ok (.ireturn, 1) := by decide +kernel
theorem dX2_greatest_0 : decode cX2_greatest 0 = .ok (.iconst 0, 1) := by decide +kernel
theorem dX2_greatest_1 : decode cX2_greatest 1 = .ok (.istore_n 2, 1) := by decide +kernel
theorem dX2_greatest_2 : decode cX2_greatest 2 = .ok (.iconst 1, 1) := by decide +kernel
theorem dX2_greatest_3 : decode cX2_greatest 3 = .ok (.istore_n 3, 1) := by decide +kernel
theorem dX2_greatest_4 : decode cX2_greatest 4 = .ok (.iload_n 3, 1) := by decide +kernel
theorem dX2_greatest_5 : decode cX2_greatest 5 = .ok (.aload_n 0, 1) := by decide +kernel
theorem dX2_greatest_6 : decode cX2_greatest 6 = .ok (.getfield 11, 3) := by decide +kernel
theorem dX2_greatest_9 : decode cX2_greatest 9 = .ok (.getfield 74, 3) := by decide +kernel
theorem dX2_greatest_12 : decode cX2_greatest 12 = .ok (.iload_n 1, 1) := by decide +kernel
theorem dX2_greatest_13 : decode cX2_greatest 13 = .ok (.iaload, 1) := by decide +kernel
theorem dX2_greatest_14 : decode cX2_greatest 14 = .ok (.if_icmp .ge 30, 3) := by decide +kernel
theorem dX2_greatest_17 : decode cX2_greatest 17 = .ok (.aload_n 0, 1) := by decide +kernel
theorem dX2_greatest_18 : decode cX2_greatest 18 = .ok (.getfield 25, 3) := by decide +kernel
theorem dX2_greatest_21 : decode cX2_greatest 21 = .ok (.iload_n 1, 1) := by decide +kernel
theorem dX2_greatest_22 : decode cX2_greatest 22 = .ok (.aaload, 1) := by decide +kernel
theorem dX2_greatest_23 : decode cX2_greatest 23 = .ok (.iload_n 3, 1) := by decide +kernel
theorem dX2_greatest_24 : decode cX2_greatest 24 = .ok (.iaload, 1) := by decide +kernel
theorem dX2_greatest_25 : decode cX2_greatest 25 = .ok (.aload_n 0, 1) := by decide +kernel
theorem dX2_greatest_26 : decode cX2_greatest 26 = .ok (.getfield 25, 3) := by decide +kernel
theorem dX2_greatest_29 : decode cX2_greatest 29 = .ok (.iload_n 1, 1) := by decide +kernel
theorem dX2_greatest_30 : decode cX2_greatest 30 = .ok (.aaload, 1) := by decide +kernel
theorem dX2_greatest_31 : decode cX2_greatest 31 = .ok (.iload_n 2, 1) := by decide +kernel
theorem dX2_greatest_32 : decode cX2_greatest 32 = .ok (.iaload, 1) := by decide +kernel
theorem dX2_greatest_33 : decode cX2_greatest 33 = .ok (.if_icmp .le 5, 3) := by decide +kernel
theorem dX2_greatest_36 : decode cX2_greatest 36 = .ok (.iload_n 3, 1) := by decide +kernel
theorem dX2_greatest_37 : decode cX2_greatest 37 = .ok (.istore_n 2, 1) := by decide +kernel
theorem dX2_greatest_38 : decode cX2_greatest 38 = .ok (.iinc 3 1, 3) := by decide +kernel
theorem dX2_greatest_41 : decode cX2_greatest 41 = .ok (.goto (-37), 3) := by decide +kernel
theorem dX2_greatest_44 : decode cX2_greatest 44 = .ok (.iload_n 2, 1) := by decide +kernel
theorem dX2_greatest_45 : decode cX2_greatest 45 = .ok (.ireturn, 1) := by decide +kernel
theorem dX2_helpOf_0 : decode cX2_helpOf 0 = .ok (.aload_n 0, 1) := by decide +kernel
theorem dX2_helpOf_1 : decode cX2_helpOf 1 = .ok (.getfield 11, 3) := by decide +kernel
theorem dX2_helpOf_4 : decode cX2_helpOf 4 = .ok (.getfield 74, 3) := by decide +kernel
theorem dX2_helpOf_7 : decode cX2_helpOf 7 = .ok (.iload_n 1, 1) := by decide +kernel
theorem dX2_helpOf_8 : decode cX2_helpOf 8 = .ok (.iaload, 1) := by decide +kernel
theorem dX2_helpOf_9 : decode cX2_helpOf 9 = .ok (.istore_n 3, 1) := by decide +kernel
theorem dX2_helpOf_10 : decode cX2_helpOf 10 = .ok (.lconst 0, 1) := by decide +kernel
theorem dX2_helpOf_11 : decode cX2_helpOf 11 = .ok (.lstore 4, 2) := by decide +kernel
theorem dX2_helpOf_13 : decode cX2_helpOf 13 = .ok (.iconst 0, 1) := by decide +kernel
theorem dX2_helpOf_14 : decode cX2_helpOf 14 = .ok (.istore 6, 2) := by decide +kernel
theorem dX2_helpOf_16 : decode cX2_helpOf 16 = .ok (.iload 6, 2) := by decide +kernel
theorem dX2_helpOf_18 : decode cX2_helpOf 18 = .ok (.iload_n 3, 1) := by decide +kernel
theorem dX2_helpOf_19 : decode cX2_helpOf 19 = .ok (.if_icmp .ge 68, 3) := by decide +kernel
theorem dX2_helpOf_22 : decode cX2_helpOf 22 = .ok (.lconst 0, 1) := by decide +kernel
theorem dX2_helpOf_23 : decode cX2_helpOf 23 = .ok (.lstore 7, 2) := by decide +kernel
theorem dX2_helpOf_25 : decode cX2_helpOf 25 = .ok (.iconst 0, 1) := by decide +kernel
theorem dX2_helpOf_26 : decode cX2_helpOf 26 = .ok (.istore 9, 2) := by decide +kernel
theorem dX2_helpOf_28 : decode cX2_helpOf 28 = .ok (.iload 9, 2) := by decide +kernel
theorem dX2_helpOf_30 : decode cX2_helpOf 30 = .ok (.iload_n 3, 1) := by decide +kernel
theorem dX2_helpOf_31 : decode cX2_helpOf 31 = .ok (.if_icmp .ge 43, 3) := by decide +kernel
theorem dX2_helpOf_34 : decode cX2_helpOf 34 = .ok (.lload 7, 2) := by decide +kernel
theorem dX2_helpOf_36 : decode cX2_helpOf 36 = .ok (.aload_n 0, 1) := by decide +kernel
theorem dX2_helpOf_37 : decode cX2_helpOf 37 = .ok (.getfield 25, 3) := by decide +kernel
theorem dX2_helpOf_40 : decode cX2_helpOf 40 = .ok (.iload_n 1, 1) := by decide +kernel
theorem dX2_helpOf_41 : decode cX2_helpOf 41 = .ok (.aaload, 1) := by decide +kernel
theorem dX2_helpOf_42 : decode cX2_helpOf 42 = .ok (.iload 9, 2) := by decide +kernel
theorem dX2_helpOf_44 : decode cX2_helpOf 44 = .ok (.iaload, 1) := by decide +kernel
theorem dX2_helpOf_45 : decode cX2_helpOf 45 = .ok (.i2l, 1) := by decide +kernel
theorem dX2_helpOf_46 : decode cX2_helpOf 46 = .ok (.aload_n 0, 1) := by decide +kernel
theorem dX2_helpOf_47 : decode cX2_helpOf 47 = .ok (.getfield 28, 3) := by decide +kernel
theorem dX2_helpOf_50 : decode cX2_helpOf 50 = .ok (.iload_n 2, 1) := by decide +kernel
