theorem dX2_helpOf_51 : decode cX2_helpOf 51 = .ok (.aaload, 1) := by decide +kernel
theorem dX2_helpOf_52 : decode cX2_helpOf 52 = .ok (.iload_n 3, 1) := by decide +kernel
theorem dX2_helpOf_53 : decode cX2_helpOf 53 = .ok (.iload 9, 2) := by decide +kernel
theorem dX2_helpOf_55 : decode cX2_helpOf 55 = .ok (.iload 6, 2) := by decide +kernel
theorem dX2_helpOf_57 : decode cX2_helpOf 57 = .ok (.invokestatic 113, 3) := by decide +kernel
theorem dX2_helpOf_60 : decode cX2_helpOf 60 = .ok (.iaload, 1) := by decide +kernel
theorem dX2_helpOf_61 : decode cX2_helpOf 61 = .ok (.i2l, 1) := by decide +kernel
theorem dX2_helpOf_62 : decode cX2_helpOf 62 = .ok (.lmul, 1) := by decide +kernel
theorem dX2_helpOf_63 : decode cX2_helpOf 63 = .ok (.invokestatic 142, 3) := by decide +kernel
theorem dX2_helpOf_66 : decode cX2_helpOf 66 = .ok (.lstore 7, 2) := by decide +kernel
theorem dX2_helpOf_68 : decode cX2_helpOf 68 = .ok (.iinc 9 1, 3) := by decide +kernel
theorem dX2_helpOf_71 : decode cX2_helpOf 71 = .ok (.goto (-43), 3) := by decide +kernel
theorem dX2_helpOf_74 : decode cX2_helpOf 74 = .ok (.lload 4, 2) := by decide +kernel
theorem dX2_helpOf_76 : decode cX2_helpOf 76 = .ok (.lload 7, 2) := by decide +kernel
theorem dX2_helpOf_78 : decode cX2_helpOf 78 = .ok (.ladd, 1) := by decide +kernel
theorem dX2_helpOf_79 : decode cX2_helpOf 79 = .ok (.lstore 4, 2) := by decide +kernel
theorem dX2_helpOf_81 : decode cX2_helpOf 81 = .ok (.iinc 6 1, 3) := by decide +kernel
theorem dX2_helpOf_84 : decode cX2_helpOf 84 = .ok (.goto (-68), 3) := by decide +kernel
theorem dX2_helpOf_87 : decode cX2_helpOf 87 = .ok (.lload 4, 2) := by decide +kernel
theorem dX2_helpOf_89 : decode cX2_helpOf 89 = .ok (.ldc2_w 121, 3) := by decide +kernel
theorem dX2_helpOf_92 : decode cX2_helpOf 92 = .ok (.ldiv, 1) := by decide +kernel
theorem dX2_helpOf_93 : decode cX2_helpOf 93 = .ok (.l2i, 1) := by decide +kernel
theorem dX2_helpOf_94 : decode cX2_helpOf 94 = .ok (.aload_n 0, 1) := by decide +kernel
theorem dX2_helpOf_95 : decode cX2_helpOf 95 = .ok (.getfield 25, 3) := by decide +kernel
theorem dX2_helpOf_98 : decode cX2_helpOf 98 = .ok (.iload_n 1, 1) := by decide +kernel
theorem dX2_helpOf_99 : decode cX2_helpOf 99 = .ok (.aaload, 1) := by decide +kernel
theorem dX2_helpOf_100 : decode cX2_helpOf 100 = .ok (.aload_n 0, 1) := by decide +kernel
theorem dX2_helpOf_101 : decode cX2_helpOf 101 = .ok (.iload_n 1, 1) := by decide +kernel
theorem dX2_helpOf_102 : decode cX2_helpOf 102 = .ok (.invokevirtual 145, 3) := by decide +kernel
theorem dX2_helpOf_105 : decode cX2_helpOf 105 = .ok (.iaload, 1) := by decide +kernel
theorem dX2_helpOf_106 : decode cX2_helpOf 106 = .ok (.isub, 1) := by decide +kernel
theorem dX2_helpOf_107 : decode cX2_helpOf 107 = .ok (.ireturn, 1) := by decide +kernel
theorem dX2_keepEnds_0 : decode cX2_keepEnds 0 = .ok (.iconst 0, 1) := by decide +kernel
theorem dX2_keepEnds_1 : decode cX2_keepEnds 1 = .ok (.istore_n 1, 1) := by decide +kernel
theorem dX2_keepEnds_2 : decode cX2_keepEnds 2 = .ok (.iload_n 1, 1) := by decide +kernel
theorem dX2_keepEnds_3 : decode cX2_keepEnds 3 = .ok (.aload_n 0, 1) := by decide +kernel
theorem dX2_keepEnds_4 : decode cX2_keepEnds 4 = .ok (.getfield 11, 3) := by decide +kernel
theorem dX2_keepEnds_7 : decode cX2_keepEnds 7 = .ok (.getfield 50, 3) := by decide +kernel
theorem dX2_keepEnds_10 : decode cX2_keepEnds 10 = .ok (.if_icmp .ge 20, 3) := by decide +kernel
theorem dX2_keepEnds_13 : decode cX2_keepEnds 13 = .ok (.aload_n 0, 1) := by decide +kernel
theorem dX2_keepEnds_14 : decode cX2_keepEnds 14 = .ok (.getfield 41, 3) := by decide +kernel
theorem dX2_keepEnds_17 : decode cX2_keepEnds 17 = .ok (.iload_n 1, 1) := by decide +kernel
theorem dX2_keepEnds_18 : decode cX2_keepEnds 18 = .ok (.aload_n 0, 1) := by decide +kernel
theorem dX2_keepEnds_19 : decode cX2_keepEnds 19 = .ok (.iload_n 1, 1) := by decide +kernel
theorem dX2_keepEnds_20 : decode cX2_keepEnds 20 = .ok (.invokevirtual 145, 3) := by decide +kernel
theorem dX2_keepEnds_23 : decode cX2_keepEnds 23 = .ok (.iastore, 1) := by decide +kernel
theorem dX2_keepEnds_24 : decode cX2_keepEnds 24 = .ok (.iinc 1 1, 3) := by decide +kernel
theorem dX2_keepEnds_27 : decode cX2_keepEnds 27 = .ok (.goto (-25), 3) := by decide +kernel
theorem dX2_keepEnds_30 : decode cX2_keepEnds 30 = .ok (.return_, 1) := by decide +kernel
theorem dX2_endsUnlikeKept_0 : decode cX2_endsUnlikeKept 0 = .ok (.iconst 0, 1) := by decide +kernel
theorem dX2_endsUnlikeKept_1 : decode cX2_endsUnlikeKept 1 = .ok (.istore_n 1, 1) := by decide +kernel
theorem dX2_endsUnlikeKept_2 : decode cX2_endsUnlikeKept 2 = .ok (.iconst 0, 1) := by decide +kernel
theorem dX2_endsUnlikeKept_3 : decode cX2_endsUnlikeKept 3 = .ok (.istore_n 2, 1) := by decide +kernel
theorem dX2_endsUnlikeKept_4 : decode cX2_endsUnlikeKept 4 = .ok (.iload_n 2, 1) := by decide +kernel
theorem dX2_endsUnlikeKept_5 : decode cX2_endsUnlikeKept 5 = .ok (.aload_n 0, 1) := by decide +kernel
theorem dX2_endsUnlikeKept_6 : decode cX2_endsUnlikeKept 6 = .ok (.getfield 11, 3) := by decide +kernel
theorem dX2_endsUnlikeKept_9 : decode cX2_endsUnlikeKept 9 = .ok (.getfield 50, 3) := by decide +kernel
theorem dX2_endsUnlikeKept_12 : decode cX2_endsUnlikeKept 12 = .ok (.if_icmp .ge 29, 3) := by decide +kernel
theorem dX2_endsUnlikeKept_15 : decode cX2_endsUnlikeKept 15 = .ok (.aload_n 0, 1) := by decide +kernel
theorem dX2_endsUnlikeKept_16 : decode cX2_endsUnlikeKept 16 = .ok (.getfield 41, 3) := by decide +kernel
theorem dX2_endsUnlikeKept_19 : decode cX2_endsUnlikeKept 19 = .ok (.iload_n 2, 1) := by decide +kernel
theorem dX2_endsUnlikeKept_20 : decode cX2_endsUnlikeKept 20 = .ok (.iaload, 1) := by decide +kernel
theorem dX2_endsUnlikeKept_21 : decode cX2_endsUnlikeKept 21 = .ok (.aload_n 0, 1) := by decide +kernel
theorem dX2_endsUnlikeKept_22 : decode cX2_endsUnlikeKept 22 = .ok (.iload_n 2, 1) := by decide +kernel
theorem dX2_endsUnlikeKept_23 : decode cX2_endsUnlikeKept 23 = .ok (.invokevirtual 145, 3) := by decide +kernel
theorem dX2_endsUnlikeKept_26 : decode cX2_endsUnlikeKept 26 = .ok (.if_icmp .eq 9, 3) := by decide +kernel
theorem dX2_endsUnlikeKept_29 : decode cX2_endsUnlikeKept 29 = .ok (.iload_n 1, 1) := by decide +kernel
theorem dX2_endsUnlikeKept_30 : decode cX2_endsUnlikeKept 30 = .ok (.iconst 1, 1) := by decide +kernel
theorem dX2_endsUnlikeKept_31 : decode cX2_endsUnlikeKept 31 = .ok (.iload_n 2, 1) := by decide +kernel
theorem dX2_endsUnlikeKept_32 : decode cX2_endsUnlikeKept 32 = .ok (.ishl, 1) := by decide +kernel
theorem dX2_endsUnlikeKept_33 : decode cX2_endsUnlikeKept 33 = .ok (.ior, 1) := by decide +kernel
theorem dX2_endsUnlikeKept_34 : decode cX2_endsUnlikeKept 34 = .ok (.istore_n 1, 1) := by decide +kernel
theorem dX2_endsUnlikeKept_35 : decode cX2_endsUnlikeKept 35 = .ok (.iinc 2 1, 3) := by decide +kernel
theorem dX2_endsUnlikeKept_38 : decode cX2_endsUnlikeKept 38 = .ok (.goto (-34), 3) := by decide +kernel
theorem dX2_endsUnlikeKept_41 : decode cX2_endsUnlikeKept 41 = .ok (.iload_n 1, 1) := by decide +kernel
theorem dX2_endsUnlikeKept_42 : decode cX2_endsUnlikeKept 42 = .ok (.ireturn, 1) := by decide +kernel
