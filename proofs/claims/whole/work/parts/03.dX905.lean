theorem dX9_plan_91 : decode cX9_plan 91 = .ok (.i2l, 1) := by decide +kernel
theorem dX9_plan_92 : decode cX9_plan 92 = .ok (.lmul, 1) := by decide +kernel
theorem dX9_plan_93 : decode cX9_plan 93 = .ok (.lstore 9, 2) := by decide +kernel
theorem dX9_plan_95 : decode cX9_plan 95 = .ok (.iinc 11 1, 3) := by decide +kernel
theorem dX9_plan_98 : decode cX9_plan 98 = .ok (.goto (-32), 3) := by decide +kernel
theorem dX9_plan_101 : decode cX9_plan 101 = .ok (.lload 6, 2) := by decide +kernel
theorem dX9_plan_103 : decode cX9_plan 103 = .ok (.lload 9, 2) := by decide +kernel
theorem dX9_plan_105 : decode cX9_plan 105 = .ok (.ladd, 1) := by decide +kernel
theorem dX9_plan_106 : decode cX9_plan 106 = .ok (.lstore 6, 2) := by decide +kernel
theorem dX9_plan_108 : decode cX9_plan 108 = .ok (.iinc 8 1, 3) := by decide +kernel
theorem dX9_plan_111 : decode cX9_plan 111 = .ok (.goto (-64), 3) := by decide +kernel
theorem dX9_plan_114 : decode cX9_plan 114 = .ok (.lload 6, 2) := by decide +kernel
theorem dX9_plan_116 : decode cX9_plan 116 = .ok (.lload_n 3, 1) := by decide +kernel
theorem dX9_plan_117 : decode cX9_plan 117 = .ok (.lcmp, 1) := by decide +kernel
theorem dX9_plan_118 : decode cX9_plan 118 = .ok (.ifCond .lt 6, 3) := by decide +kernel
theorem dX9_plan_121 : decode cX9_plan 121 = .ok (.iload 5, 2) := by decide +kernel
theorem dX9_plan_123 : decode cX9_plan 123 = .ok (.ireturn, 1) := by decide +kernel
theorem dX9_plan_124 : decode cX9_plan 124 = .ok (.lload_n 3, 1) := by decide +kernel
theorem dX9_plan_125 : decode cX9_plan 125 = .ok (.ldc2_w 172, 3) := by decide +kernel
theorem dX9_plan_128 : decode cX9_plan 128 = .ok (.lmul, 1) := by decide +kernel
theorem dX9_plan_129 : decode cX9_plan 129 = .ok (.lstore_n 3, 1) := by decide +kernel
theorem dX9_plan_130 : decode cX9_plan 130 = .ok (.iinc 5 2, 3) := by decide +kernel
theorem dX9_plan_133 : decode cX9_plan 133 = .ok (.goto (-104), 3) := by decide +kernel
theorem dX9_plan_136 : decode cX9_plan 136 = .ok (.bipush (-6), 2) := by decide +kernel
theorem dX9_plan_138 : decode cX9_plan 138 = .ok (.ireturn, 1) := by decide +kernel
theorem dX9_told_0 : decode cX9_told 0 = .ok (.iconst 0, 1) := by decide +kernel
theorem dX9_told_1 : decode cX9_told 1 = .ok (.istore_n 2, 1) := by decide +kernel
theorem dX9_told_2 : decode cX9_told 2 = .ok (.iload_n 1, 1) := by decide +kernel
theorem dX9_told_3 : decode cX9_told 3 = .ok (.tableswitch 119 0 5 #[37, 42, 47, 52, 57, 83], 37) := by decide +kernel
theorem dX9_told_40 : decode cX9_told 40 = .ok (.aload_n 0, 1) := by decide +kernel
theorem dX9_told_41 : decode cX9_told 41 = .ok (.getfield 97, 3) := by decide +kernel
theorem dX9_told_44 : decode cX9_told 44 = .ok (.ireturn, 1) := by decide +kernel
theorem dX9_told_45 : decode cX9_told 45 = .ok (.aload_n 0, 1) := by decide +kernel
theorem dX9_told_46 : decode cX9_told 46 = .ok (.getfield 112, 3) := by decide +kernel
theorem dX9_told_49 : decode cX9_told 49 = .ok (.ireturn, 1) := by decide +kernel
theorem dX9_told_50 : decode cX9_told 50 = .ok (.aload_n 0, 1) := by decide +kernel
theorem dX9_told_51 : decode cX9_told 51 = .ok (.getfield 115, 3) := by decide +kernel
theorem dX9_told_54 : decode cX9_told 54 = .ok (.ireturn, 1) := by decide +kernel
theorem dX9_told_55 : decode cX9_told 55 = .ok (.aload_n 0, 1) := by decide +kernel
theorem dX9_told_56 : decode cX9_told 56 = .ok (.getfield 118, 3) := by decide +kernel
theorem dX9_told_59 : decode cX9_told 59 = .ok (.ireturn, 1) := by decide +kernel
theorem dX9_told_60 : decode cX9_told 60 = .ok (.iconst 0, 1) := by decide +kernel
theorem dX9_told_61 : decode cX9_told 61 = .ok (.istore_n 3, 1) := by decide +kernel
theorem dX9_told_62 : decode cX9_told 62 = .ok (.iload_n 3, 1) := by decide +kernel
theorem dX9_told_63 : decode cX9_told 63 = .ok (.aload_n 0, 1) := by decide +kernel
theorem dX9_told_64 : decode cX9_told 64 = .ok (.getfield 118, 3) := by decide +kernel
theorem dX9_told_67 : decode cX9_told 67 = .ok (.if_icmp .ge 17, 3) := by decide +kernel
theorem dX9_told_70 : decode cX9_told 70 = .ok (.iload_n 2, 1) := by decide +kernel
theorem dX9_told_71 : decode cX9_told 71 = .ok (.aload_n 0, 1) := by decide +kernel
theorem dX9_told_72 : decode cX9_told 72 = .ok (.iload_n 3, 1) := by decide +kernel
theorem dX9_told_73 : decode cX9_told 73 = .ok (.invokevirtual 204, 3) := by decide +kernel
theorem dX9_told_76 : decode cX9_told 76 = .ok (.iadd, 1) := by decide +kernel
theorem dX9_told_77 : decode cX9_told 77 = .ok (.istore_n 2, 1) := by decide +kernel
theorem dX9_told_78 : decode cX9_told 78 = .ok (.iinc 3 1, 3) := by decide +kernel
theorem dX9_told_81 : decode cX9_told 81 = .ok (.goto (-19), 3) := by decide +kernel
theorem dX9_told_84 : decode cX9_told 84 = .ok (.iload_n 2, 1) := by decide +kernel
theorem dX9_told_85 : decode cX9_told 85 = .ok (.ireturn, 1) := by decide +kernel
theorem dX9_told_86 : decode cX9_told 86 = .ok (.iconst 0, 1) := by decide +kernel
theorem dX9_told_87 : decode cX9_told 87 = .ok (.istore_n 3, 1) := by decide +kernel
theorem dX9_told_88 : decode cX9_told 88 = .ok (.iload_n 3, 1) := by decide +kernel
theorem dX9_told_89 : decode cX9_told 89 = .ok (.aload_n 0, 1) := by decide +kernel
theorem dX9_told_90 : decode cX9_told 90 = .ok (.getfield 115, 3) := by decide +kernel
theorem dX9_told_93 : decode cX9_told 93 = .ok (.if_icmp .ge 27, 3) := by decide +kernel
theorem dX9_told_96 : decode cX9_told 96 = .ok (.iload_n 2, 1) := by decide +kernel
theorem dX9_told_97 : decode cX9_told 97 = .ok (.aload_n 0, 1) := by decide +kernel
theorem dX9_told_98 : decode cX9_told 98 = .ok (.iload_n 3, 1) := by decide +kernel
theorem dX9_told_99 : decode cX9_told 99 = .ok (.invokevirtual 162, 3) := by decide +kernel
theorem dX9_told_102 : decode cX9_told 102 = .ok (.ifCond .eq 9, 3) := by decide +kernel
theorem dX9_told_105 : decode cX9_told 105 = .ok (.iconst 1, 1) := by decide +kernel
theorem dX9_told_106 : decode cX9_told 106 = .ok (.iload_n 3, 1) := by decide +kernel
theorem dX9_told_107 : decode cX9_told 107 = .ok (.ishl, 1) := by decide +kernel
theorem dX9_told_108 : decode cX9_told 108 = .ok (.goto 4, 3) := by decide +kernel
theorem dX9_told_111 : decode cX9_told 111 = .ok (.iconst 0, 1) := by decide +kernel
theorem dX9_told_112 : decode cX9_told 112 = .ok (.ior, 1) := by decide +kernel
theorem dX9_told_113 : decode cX9_told 113 = .ok (.istore_n 2, 1) := by decide +kernel
theorem dX9_told_114 : decode cX9_told 114 = .ok (.iinc 3 1, 3) := by decide +kernel
theorem dX9_told_117 : decode cX9_told 117 = .ok (.goto (-29), 3) := by decide +kernel
theorem dX9_told_120 : decode cX9_told 120 = .ok (.iload_n 2, 1) := by decide +kernel
theorem dX9_told_121 : decode cX9_told 121 = .ok (.ireturn, 1) := by decide +kernel
theorem dX9_told_122 : decode cX9_told 122 = .ok (.bipush (-2), 2) := by decide +kernel
theorem dX9_told_124 : decode cX9_told 124 = .ok (.ireturn, 1) := by decide +kernel
