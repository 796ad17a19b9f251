theorem dX8_init_0 : decode cX8_init 0 = .ok (.aload_n 0, 1) := by decide +kernel
theorem dX8_init_1 : decode cX8_init 1 = .ok (.invokespecial 1, 3) := by decide +kernel
theorem dX8_init_4 : decode cX8_init 4 = .ok (.aload_n 0, 1) := by decide +kernel
theorem dX8_init_5 : decode cX8_init 5 = .ok (.new 7, 3) := by decide +kernel
theorem dX8_init_8 : decode cX8_init 8 = .ok (.dup, 1) := by decide +kernel
theorem dX8_init_9 : decode cX8_init 9 = .ok (.invokespecial 9, 3) := by decide +kernel
theorem dX8_init_12 : decode cX8_init 12 = .ok (.putfield 10, 3) := by decide +kernel
theorem dX8_init_15 : decode cX8_init 15 = .ok (.aload_n 0, 1) := by decide +kernel
theorem dX8_init_16 : decode cX8_init 16 = .ok (.new 16, 3) := by decide +kernel
theorem dX8_init_19 : decode cX8_init 19 = .ok (.dup, 1) := by decide +kernel
theorem dX8_init_20 : decode cX8_init 20 = .ok (.invokespecial 18, 3) := by decide +kernel
theorem dX8_init_23 : decode cX8_init 23 = .ok (.putfield 19, 3) := by decide +kernel
theorem dX8_init_26 : decode cX8_init 26 = .ok (.aload_n 0, 1) := by decide +kernel
theorem dX8_init_27 : decode cX8_init 27 = .ok (.new 23, 3) := by decide +kernel
theorem dX8_init_30 : decode cX8_init 30 = .ok (.dup, 1) := by decide +kernel
theorem dX8_init_31 : decode cX8_init 31 = .ok (.invokespecial 25, 3) := by decide +kernel
theorem dX8_init_34 : decode cX8_init 34 = .ok (.putfield 26, 3) := by decide +kernel
theorem dX8_init_37 : decode cX8_init 37 = .ok (.aload_n 0, 1) := by decide +kernel
theorem dX8_init_38 : decode cX8_init 38 = .ok (.new 30, 3) := by decide +kernel
theorem dX8_init_41 : decode cX8_init 41 = .ok (.dup, 1) := by decide +kernel
theorem dX8_init_42 : decode cX8_init 42 = .ok (.invokespecial 32, 3) := by decide +kernel
theorem dX8_init_45 : decode cX8_init 45 = .ok (.putfield 33, 3) := by decide +kernel
theorem dX8_init_48 : decode cX8_init 48 = .ok (.aload_n 0, 1) := by decide +kernel
theorem dX8_init_49 : decode cX8_init 49 = .ok (.new 37, 3) := by decide +kernel
theorem dX8_init_52 : decode cX8_init 52 = .ok (.dup, 1) := by decide +kernel
theorem dX8_init_53 : decode cX8_init 53 = .ok (.invokespecial 39, 3) := by decide +kernel
theorem dX8_init_56 : decode cX8_init 56 = .ok (.putfield 40, 3) := by decide +kernel
theorem dX8_init_59 : decode cX8_init 59 = .ok (.aload_n 0, 1) := by decide +kernel
theorem dX8_init_60 : decode cX8_init 60 = .ok (.new 44, 3) := by decide +kernel
theorem dX8_init_63 : decode cX8_init 63 = .ok (.dup, 1) := by decide +kernel
theorem dX8_init_64 : decode cX8_init 64 = .ok (.aload_n 0, 1) := by decide +kernel
theorem dX8_init_65 : decode cX8_init 65 = .ok (.getfield 26, 3) := by decide +kernel
theorem dX8_init_68 : decode cX8_init 68 = .ok (.aload_n 0, 1) := by decide +kernel
theorem dX8_init_69 : decode cX8_init 69 = .ok (.getfield 33, 3) := by decide +kernel
theorem dX8_init_72 : decode cX8_init 72 = .ok (.aload_n 0, 1) := by decide +kernel
theorem dX8_init_73 : decode cX8_init 73 = .ok (.getfield 40, 3) := by decide +kernel
theorem dX8_init_76 : decode cX8_init 76 = .ok (.invokespecial 46, 3) := by decide +kernel
theorem dX8_init_79 : decode cX8_init 79 = .ok (.putfield 49, 3) := by decide +kernel
theorem dX8_init_82 : decode cX8_init 82 = .ok (.aload_n 0, 1) := by decide +kernel
theorem dX8_init_83 : decode cX8_init 83 = .ok (.new 44, 3) := by decide +kernel
theorem dX8_init_86 : decode cX8_init 86 = .ok (.dup, 1) := by decide +kernel
theorem dX8_init_87 : decode cX8_init 87 = .ok (.aload_n 0, 1) := by decide +kernel
theorem dX8_init_88 : decode cX8_init 88 = .ok (.getfield 26, 3) := by decide +kernel
theorem dX8_init_91 : decode cX8_init 91 = .ok (.aload_n 0, 1) := by decide +kernel
theorem dX8_init_92 : decode cX8_init 92 = .ok (.getfield 33, 3) := by decide +kernel
theorem dX8_init_95 : decode cX8_init 95 = .ok (.aload_n 0, 1) := by decide +kernel
theorem dX8_init_96 : decode cX8_init 96 = .ok (.getfield 40, 3) := by decide +kernel
theorem dX8_init_99 : decode cX8_init 99 = .ok (.invokespecial 46, 3) := by decide +kernel
theorem dX8_init_102 : decode cX8_init 102 = .ok (.putfield 53, 3) := by decide +kernel
theorem dX8_init_105 : decode cX8_init 105 = .ok (.aload_n 0, 1) := by decide +kernel
theorem dX8_init_106 : decode cX8_init 106 = .ok (.new 56, 3) := by decide +kernel
theorem dX8_init_109 : decode cX8_init 109 = .ok (.dup, 1) := by decide +kernel
theorem dX8_init_110 : decode cX8_init 110 = .ok (.invokespecial 58, 3) := by decide +kernel
theorem dX8_init_113 : decode cX8_init 113 = .ok (.putfield 59, 3) := by decide +kernel
theorem dX8_init_116 : decode cX8_init 116 = .ok (.aload_n 0, 1) := by decide +kernel
theorem dX8_init_117 : decode cX8_init 117 = .ok (.new 63, 3) := by decide +kernel
theorem dX8_init_120 : decode cX8_init 120 = .ok (.dup, 1) := by decide +kernel
theorem dX8_init_121 : decode cX8_init 121 = .ok (.invokespecial 65, 3) := by decide +kernel
theorem dX8_init_124 : decode cX8_init 124 = .ok (.putfield 66, 3) := by decide +kernel
theorem dX8_init_127 : decode cX8_init 127 = .ok (.aload_n 0, 1) := by decide +kernel
theorem dX8_init_128 : decode cX8_init 128 = .ok (.iconst (-1), 1) := by decide +kernel
theorem dX8_init_129 : decode cX8_init 129 = .ok (.putfield 70, 3) := by decide +kernel
theorem dX8_init_132 : decode cX8_init 132 = .ok (.aload_n 0, 1) := by decide +kernel
theorem dX8_init_133 : decode cX8_init 133 = .ok (.bipush (-6), 2) := by decide +kernel
theorem dX8_init_135 : decode cX8_init 135 = .ok (.putfield 74, 3) := by decide +kernel
theorem dX8_init_138 : decode cX8_init 138 = .ok (.aload_n 0, 1) := by decide +kernel
theorem dX8_init_139 : decode cX8_init 139 = .ok (.bipush (-6), 2) := by decide +kernel
theorem dX8_init_141 : decode cX8_init 141 = .ok (.putfield 77, 3) := by decide +kernel
theorem dX8_init_144 : decode cX8_init 144 = .ok (.aload_n 0, 1) := by decide +kernel
theorem dX8_init_145 : decode cX8_init 145 = .ok (.bipush (-6), 2) := by decide +kernel
theorem dX8_init_147 : decode cX8_init 147 = .ok (.putfield 80, 3) := by decide +kernel
theorem dX8_init_150 : decode cX8_init 150 = .ok (.return_, 1) := by decide +kernel
theorem dX8_say_0 : decode cX8_say 0 = .ok (.iload_n 1, 1) := by decide +kernel
theorem dX8_say_1 : decode cX8_say 1 = .ok (.bipush 33, 2) := by decide +kernel
theorem dX8_say_3 : decode cX8_say 3 = .ok (.if_icmp .lt 9, 3) := by decide +kernel
theorem dX8_say_6 : decode cX8_say 6 = .ok (.iload_n 1, 1) := by decide +kernel
theorem dX8_say_7 : decode cX8_say 7 = .ok (.bipush 126, 2) := by decide +kernel
theorem dX8_say_9 : decode cX8_say 9 = .ok (.if_icmp .le 6, 3) := by decide +kernel
theorem dX8_say_12 : decode cX8_say 12 = .ok (.bipush (-2), 2) := by decide +kernel
theorem dX8_say_14 : decode cX8_say 14 = .ok (.ireturn, 1) := by decide +kernel
theorem dX8_say_15 : decode cX8_say 15 = .ok (.aload_n 0, 1) := by decide +kernel
theorem dX8_say_16 : decode cX8_say 16 = .ok (.getfield 10, 3) := by decide +kernel
theorem dX8_say_19 : decode cX8_say 19 = .ok (.iload_n 1, 1) := by decide +kernel
theorem dX8_say_20 : decode cX8_say 20 = .ok (.invokevirtual 83, 3) := by decide +kernel
theorem dX8_say_23 : decode cX8_say 23 = .ok (.ifCond .eq 13, 3) := by decide +kernel
theorem dX8_say_26 : decode cX8_say 26 = .ok (.aload_n 0, 1) := by decide +kernel
theorem dX8_say_27 : decode cX8_say 27 = .ok (.getfield 10, 3) := by decide +kernel
theorem dX8_say_30 : decode cX8_say 30 = .ok (.getfield 87, 3) := by decide +kernel
theorem dX8_say_33 : decode cX8_say 33 = .ok (.goto 5, 3) := by decide +kernel
theorem dX8_say_36 : decode cX8_say 36 = .ok (.bipush (-4), 2) := by decide +kernel
theorem dX8_say_38 : decode cX8_say 38 = .ok (.ireturn, 1) := by decide +kernel
theorem dX8_wipe_0 : decode cX8_wipe 0 = .ok (.aload_n 0, 1) := by decide +kernel
theorem dX8_wipe_1 : decode cX8_wipe 1 = .ok (.getfield 10, 3) := by decide +kernel
theorem dX8_wipe_4 : decode cX8_wipe 4 = .ok (.getfield 87, 3) := by decide +kernel
theorem dX8_wipe_7 : decode cX8_wipe 7 = .ok (.istore_n 1, 1) := by decide +kernel
theorem dX8_wipe_8 : decode cX8_wipe 8 = .ok (.aload_n 0, 1) := by decide +kernel
theorem dX8_wipe_9 : decode cX8_wipe 9 = .ok (.getfield 10, 3) := by decide +kernel
theorem dX8_wipe_12 : decode cX8_wipe 12 = .ok (.iconst 0, 1) := by decide +kernel
theorem dX8_wipe_13 : decode cX8_wipe 13 = .ok (.putfield 87, 3) := by decide +kernel
theorem dX8_wipe_16 : decode cX8_wipe 16 = .ok (.iload_n 1, 1) := by decide +kernel
theorem dX8_wipe_17 : decode cX8_wipe 17 = .ok (.ireturn, 1) := by decide +kernel
theorem dX8_fault_0 : decode cX8_fault 0 = .ok (.aload_n 0, 1) := by decide +kernel
theorem dX8_fault_1 : decode cX8_fault 1 = .ok (.getfield 10, 3) := by decide +kernel
theorem dX8_fault_4 : decode cX8_fault 4 = .ok (.invokevirtual 90, 3) := by decide +kernel
theorem dX8_fault_7 : decode cX8_fault 7 = .ok (.ireturn, 1) := by decide +kernel
theorem dX8_task_0 : decode cX8_task 0 = .ok (.aload_n 0, 1) := by decide +kernel
theorem dX8_task_1 : decode cX8_task 1 = .ok (.getfield 10, 3) := by decide +kernel
theorem dX8_task_4 : decode cX8_task 4 = .ok (.invokevirtual 90, 3) := by decide +kernel
theorem dX8_task_7 : decode cX8_task 7 = .ok (.bipush (-6), 2) := by decide +kernel
theorem dX8_task_9 : decode cX8_task 9 = .ok (.if_icmp .eq 6, 3) := by decide +kernel
theorem dX8_task_12 : decode cX8_task 12 = .ok (.bipush (-5), 2) := by decide +kernel
theorem dX8_task_14 : decode cX8_task 14 = .ok (.ireturn, 1) := by decide +kernel
theorem dX8_task_15 : decode cX8_task 15 = .ok (.aload_n 0, 1) := by decide +kernel
theorem dX8_task_16 : decode cX8_task 16 = .ok (.getfield 19, 3) := by decide +kernel
theorem dX8_task_19 : decode cX8_task 19 = .ok (.aload_n 0, 1) := by decide +kernel
theorem dX8_task_20 : decode cX8_task 20 = .ok (.getfield 10, 3) := by decide +kernel
theorem dX8_task_23 : decode cX8_task 23 = .ok (.getfield 94, 3) := by decide +kernel
theorem dX8_task_26 : decode cX8_task 26 = .ok (.invokevirtual 97, 3) := by decide +kernel
theorem dX8_task_29 : decode cX8_task 29 = .ok (.aload_n 0, 1) := by decide +kernel
theorem dX8_task_30 : decode cX8_task 30 = .ok (.getfield 10, 3) := by decide +kernel
theorem dX8_task_33 : decode cX8_task 33 = .ok (.iconst 0, 1) := by decide +kernel
theorem dX8_task_34 : decode cX8_task 34 = .ok (.putfield 87, 3) := by decide +kernel
theorem dX8_task_37 : decode cX8_task 37 = .ok (.aload_n 0, 1) := by decide +kernel
theorem dX8_task_38 : decode cX8_task 38 = .ok (.getfield 26, 3) := by decide +kernel
theorem dX8_task_41 : decode cX8_task 41 = .ok (.iconst 0, 1) := by decide +kernel
theorem dX8_task_42 : decode cX8_task 42 = .ok (.putfield 101, 3) := by decide +kernel
theorem dX8_task_45 : decode cX8_task 45 = .ok (.aload_n 0, 1) := by decide +kernel
theorem dX8_task_46 : decode cX8_task 46 = .ok (.getfield 33, 3) := by decide +kernel
theorem dX8_task_49 : decode cX8_task 49 = .ok (.iconst 0, 1) := by decide +kernel
theorem dX8_task_50 : decode cX8_task 50 = .ok (.putfield 102, 3) := by decide +kernel
theorem dX8_task_53 : decode cX8_task 53 = .ok (.aload_n 0, 1) := by decide +kernel
theorem dX8_task_54 : decode cX8_task 54 = .ok (.iconst (-1), 1) := by decide +kernel
theorem dX8_task_55 : decode cX8_task 55 = .ok (.putfield 70, 3) := by decide +kernel
theorem dX8_task_58 : decode cX8_task 58 = .ok (.aload_n 0, 1) := by decide +kernel
theorem dX8_task_59 : decode cX8_task 59 = .ok (.getfield 19, 3) := by decide +kernel
theorem dX8_task_62 : decode cX8_task 62 = .ok (.getfield 103, 3) := by decide +kernel
theorem dX8_task_65 : decode cX8_task 65 = .ok (.ireturn, 1) := by decide +kernel
theorem dX8_step_0 : decode cX8_step 0 = .ok (.aload_n 0, 1) := by decide +kernel
theorem dX8_step_1 : decode cX8_step 1 = .ok (.getfield 19, 3) := by decide +kernel
theorem dX8_step_4 : decode cX8_step 4 = .ok (.iload_n 1, 1) := by decide +kernel
theorem dX8_step_5 : decode cX8_step 5 = .ok (.invokevirtual 104, 3) := by decide +kernel
theorem dX8_step_8 : decode cX8_step 8 = .ok (.ifCond .ne 5, 3) := by decide +kernel
theorem dX8_step_11 : decode cX8_step 11 = .ok (.iconst (-1), 1) := by decide +kernel
theorem dX8_step_12 : decode cX8_step 12 = .ok (.ireturn, 1) := by decide +kernel
theorem dX8_step_13 : decode cX8_step 13 = .ok (.iload_n 2, 1) := by decide +kernel
theorem dX8_step_14 : decode cX8_step 14 = .ok (.tableswitch 70 0 3 #[30, 40, 50, 60], 30) := by decide +kernel
theorem dX8_step_44 : decode cX8_step 44 = .ok (.aload_n 0, 1) := by decide +kernel
theorem dX8_step_45 : decode cX8_step 45 = .ok (.getfield 19, 3) := by decide +kernel
theorem dX8_step_48 : decode cX8_step 48 = .ok (.getfield 107, 3) := by decide +kernel
theorem dX8_step_51 : decode cX8_step 51 = .ok (.iload_n 1, 1) := by decide +kernel
theorem dX8_step_52 : decode cX8_step 52 = .ok (.iaload, 1) := by decide +kernel
theorem dX8_step_53 : decode cX8_step 53 = .ok (.ireturn, 1) := by decide +kernel
theorem dX8_step_54 : decode cX8_step 54 = .ok (.aload_n 0, 1) := by decide +kernel
theorem dX8_step_55 : decode cX8_step 55 = .ok (.getfield 19, 3) := by decide +kernel
theorem dX8_step_58 : decode cX8_step 58 = .ok (.getfield 111, 3) := by decide +kernel
theorem dX8_step_61 : decode cX8_step 61 = .ok (.iload_n 1, 1) := by decide +kernel
theorem dX8_step_62 : decode cX8_step 62 = .ok (.iaload, 1) := by decide +kernel
theorem dX8_step_63 : decode cX8_step 63 = .ok (.ireturn, 1) := by decide +kernel
theorem dX8_step_64 : decode cX8_step 64 = .ok (.aload_n 0, 1) := by decide +kernel
theorem dX8_step_65 : decode cX8_step 65 = .ok (.getfield 19, 3) := by decide +kernel
theorem dX8_step_68 : decode cX8_step 68 = .ok (.getfield 114, 3) := by decide +kernel
theorem dX8_step_71 : decode cX8_step 71 = .ok (.iload_n 1, 1) := by decide +kernel
theorem dX8_step_72 : decode cX8_step 72 = .ok (.iaload, 1) := by decide +kernel
theorem dX8_step_73 : decode cX8_step 73 = .ok (.ireturn, 1) := by decide +kernel
theorem dX8_step_74 : decode cX8_step 74 = .ok (.aload_n 0, 1) := by decide +kernel
theorem dX8_step_75 : decode cX8_step 75 = .ok (.getfield 19, 3) := by decide +kernel
theorem dX8_step_78 : decode cX8_step 78 = .ok (.getfield 117, 3) := by decide +kernel
theorem dX8_step_81 : decode cX8_step 81 = .ok (.iload_n 1, 1) := by decide +kernel
theorem dX8_step_82 : decode cX8_step 82 = .ok (.iaload, 1) := by decide +kernel
theorem dX8_step_83 : decode cX8_step 83 = .ok (.ireturn, 1) := by decide +kernel
theorem dX8_step_84 : decode cX8_step 84 = .ok (.bipush (-2), 2) := by decide +kernel
theorem dX8_step_86 : decode cX8_step 86 = .ok (.ireturn, 1) := by decide +kernel
theorem dX8_item_0 : decode cX8_item 0 = .ok (.aload_n 0, 1) := by decide +kernel
theorem dX8_item_1 : decode cX8_item 1 = .ok (.getfield 19, 3) := by decide +kernel
theorem dX8_item_4 : decode cX8_item 4 = .ok (.iload_n 1, 1) := by decide +kernel
theorem dX8_item_5 : decode cX8_item 5 = .ok (.invokevirtual 104, 3) := by decide +kernel
theorem dX8_item_8 : decode cX8_item 8 = .ok (.ifCond .ne 5, 3) := by decide +kernel
theorem dX8_item_11 : decode cX8_item 11 = .ok (.iconst (-1), 1) := by decide +kernel
theorem dX8_item_12 : decode cX8_item 12 = .ok (.ireturn, 1) := by decide +kernel
theorem dX8_item_13 : decode cX8_item 13 = .ok (.iload_n 2, 1) := by decide +kernel
theorem dX8_item_14 : decode cX8_item 14 = .ok (.ifCond .lt 9, 3) := by decide +kernel
theorem dX8_item_17 : decode cX8_item 17 = .ok (.iload_n 2, 1) := by decide +kernel
theorem dX8_item_18 : decode cX8_item 18 = .ok (.bipush 10, 2) := by decide +kernel
theorem dX8_item_20 : decode cX8_item 20 = .ok (.if_icmp .lt 6, 3) := by decide +kernel
theorem dX8_item_23 : decode cX8_item 23 = .ok (.bipush (-2), 2) := by decide +kernel
theorem dX8_item_25 : decode cX8_item 25 = .ok (.ireturn, 1) := by decide +kernel
theorem dX8_item_26 : decode cX8_item 26 = .ok (.aload_n 0, 1) := by decide +kernel
theorem dX8_item_27 : decode cX8_item 27 = .ok (.getfield 26, 3) := by decide +kernel
theorem dX8_item_30 : decode cX8_item 30 = .ok (.getfield 101, 3) := by decide +kernel
theorem dX8_item_33 : decode cX8_item 33 = .ok (.bipush 24, 2) := by decide +kernel
theorem dX8_item_35 : decode cX8_item 35 = .ok (.if_icmp .lt 6, 3) := by decide +kernel
theorem dX8_item_38 : decode cX8_item 38 = .ok (.bipush (-4), 2) := by decide +kernel
theorem dX8_item_40 : decode cX8_item 40 = .ok (.ireturn, 1) := by decide +kernel
theorem dX8_item_41 : decode cX8_item 41 = .ok (.aload_n 0, 1) := by decide +kernel
theorem dX8_item_42 : decode cX8_item 42 = .ok (.getfield 26, 3) := by decide +kernel
theorem dX8_item_45 : decode cX8_item 45 = .ok (.iload_n 1, 1) := by decide +kernel
theorem dX8_item_46 : decode cX8_item 46 = .ok (.iload_n 2, 1) := by decide +kernel
theorem dX8_item_47 : decode cX8_item 47 = .ok (.invokevirtual 120, 3) := by decide +kernel
theorem dX8_item_50 : decode cX8_item 50 = .ok (.bipush (-6), 2) := by decide +kernel
theorem dX8_item_52 : decode cX8_item 52 = .ok (.if_icmp .eq 6, 3) := by decide +kernel
theorem dX8_item_55 : decode cX8_item 55 = .ok (.bipush (-5), 2) := by decide +kernel
theorem dX8_item_57 : decode cX8_item 57 = .ok (.ireturn, 1) := by decide +kernel
theorem dX8_item_58 : decode cX8_item 58 = .ok (.aload_n 0, 1) := by decide +kernel
theorem dX8_item_59 : decode cX8_item 59 = .ok (.getfield 26, 3) := by decide +kernel
theorem dX8_item_62 : decode cX8_item 62 = .ok (.iload_n 1, 1) := by decide +kernel
theorem dX8_item_63 : decode cX8_item 63 = .ok (.iload_n 2, 1) := by decide +kernel
theorem dX8_item_64 : decode cX8_item 64 = .ok (.aload_n 0, 1) := by decide +kernel
theorem dX8_item_65 : decode cX8_item 65 = .ok (.getfield 19, 3) := by decide +kernel
theorem dX8_item_68 : decode cX8_item 68 = .ok (.getfield 111, 3) := by decide +kernel
theorem dX8_item_71 : decode cX8_item 71 = .ok (.iload_n 1, 1) := by decide +kernel
theorem dX8_item_72 : decode cX8_item 72 = .ok (.iaload, 1) := by decide +kernel
theorem dX8_item_73 : decode cX8_item 73 = .ok (.invokevirtual 124, 3) := by decide +kernel
theorem dX8_item_76 : decode cX8_item 76 = .ok (.istore_n 3, 1) := by decide +kernel
theorem dX8_item_77 : decode cX8_item 77 = .ok (.aload_n 0, 1) := by decide +kernel
theorem dX8_item_78 : decode cX8_item 78 = .ok (.getfield 49, 3) := by decide +kernel
theorem dX8_item_81 : decode cX8_item 81 = .ok (.iload_n 3, 1) := by decide +kernel
theorem dX8_item_82 : decode cX8_item 82 = .ok (.invokevirtual 127, 3) := by decide +kernel
theorem dX8_item_85 : decode cX8_item 85 = .ok (.iload_n 3, 1) := by decide +kernel
theorem dX8_item_86 : decode cX8_item 86 = .ok (.ireturn, 1) := by decide +kernel
theorem dX8_known_0 : decode cX8_known 0 = .ok (.aload_n 0, 1) := by decide +kernel
theorem dX8_known_1 : decode cX8_known 1 = .ok (.getfield 26, 3) := by decide +kernel
theorem dX8_known_4 : decode cX8_known 4 = .ok (.iload_n 1, 1) := by decide +kernel
theorem dX8_known_5 : decode cX8_known 5 = .ok (.iload_n 2, 1) := by decide +kernel
theorem dX8_known_6 : decode cX8_known 6 = .ok (.invokevirtual 131, 3) := by decide +kernel
theorem dX8_known_9 : decode cX8_known 9 = .ok (.ifCond .ne 5, 3) := by decide +kernel
theorem dX8_known_12 : decode cX8_known 12 = .ok (.iconst (-1), 1) := by decide +kernel
theorem dX8_known_13 : decode cX8_known 13 = .ok (.ireturn, 1) := by decide +kernel
theorem dX8_known_14 : decode cX8_known 14 = .ok (.aload_n 0, 1) := by decide +kernel
theorem dX8_known_15 : decode cX8_known 15 = .ok (.getfield 33, 3) := by decide +kernel
theorem dX8_known_18 : decode cX8_known 18 = .ok (.iload_n 1, 1) := by decide +kernel
theorem dX8_known_19 : decode cX8_known 19 = .ok (.invokevirtual 135, 3) := by decide +kernel
theorem dX8_known_22 : decode cX8_known 22 = .ok (.ifCond .ne 14, 3) := by decide +kernel
theorem dX8_known_25 : decode cX8_known 25 = .ok (.aload_n 0, 1) := by decide +kernel
theorem dX8_known_26 : decode cX8_known 26 = .ok (.getfield 26, 3) := by decide +kernel
theorem dX8_known_29 : decode cX8_known 29 = .ok (.iload_n 1, 1) := by decide +kernel
theorem dX8_known_30 : decode cX8_known 30 = .ok (.invokevirtual 138, 3) := by decide +kernel
theorem dX8_known_33 : decode cX8_known 33 = .ok (.ifCond .ne 6, 3) := by decide +kernel
theorem dX8_known_36 : decode cX8_known 36 = .ok (.bipush (-3), 2) := by decide +kernel
theorem dX8_known_38 : decode cX8_known 38 = .ok (.ireturn, 1) := by decide +kernel
theorem dX8_known_39 : decode cX8_known 39 = .ok (.aload_n 0, 1) := by decide +kernel
theorem dX8_known_40 : decode cX8_known 40 = .ok (.getfield 26, 3) := by decide +kernel
theorem dX8_known_43 : decode cX8_known 43 = .ok (.getfield 141, 3) := by decide +kernel
theorem dX8_known_46 : decode cX8_known 46 = .ok (.iload_n 1, 1) := by decide +kernel
theorem dX8_known_47 : decode cX8_known 47 = .ok (.iload_n 2, 1) := by decide +kernel
theorem dX8_known_48 : decode cX8_known 48 = .ok (.iastore, 1) := by decide +kernel
theorem dX8_known_49 : decode cX8_known 49 = .ok (.aload_n 0, 1) := by decide +kernel
theorem dX8_known_50 : decode cX8_known 50 = .ok (.getfield 49, 3) := by decide +kernel
theorem dX8_known_53 : decode cX8_known 53 = .ok (.iload_n 1, 1) := by decide +kernel
theorem dX8_known_54 : decode cX8_known 54 = .ok (.invokevirtual 144, 3) := by decide +kernel
theorem dX8_known_57 : decode cX8_known 57 = .ok (.iconst 1, 1) := by decide +kernel
theorem dX8_known_58 : decode cX8_known 58 = .ok (.ireturn, 1) := by decide +kernel
theorem dX8_settle_0 : decode cX8_settle 0 = .ok (.aload_n 0, 1) := by decide +kernel
theorem dX8_settle_1 : decode cX8_settle 1 = .ok (.getfield 26, 3) := by decide +kernel
theorem dX8_settle_4 : decode cX8_settle 4 = .ok (.iload_n 1, 1) := by decide +kernel
theorem dX8_settle_5 : decode cX8_settle 5 = .ok (.iload_n 2, 1) := by decide +kernel
theorem dX8_settle_6 : decode cX8_settle 6 = .ok (.invokevirtual 131, 3) := by decide +kernel
theorem dX8_settle_9 : decode cX8_settle 9 = .ok (.ifCond .ne 5, 3) := by decide +kernel
theorem dX8_settle_12 : decode cX8_settle 12 = .ok (.iconst (-1), 1) := by decide +kernel
theorem dX8_settle_13 : decode cX8_settle 13 = .ok (.ireturn, 1) := by decide +kernel
theorem dX8_settle_14 : decode cX8_settle 14 = .ok (.aload_n 0, 1) := by decide +kernel
theorem dX8_settle_15 : decode cX8_settle 15 = .ok (.getfield 26, 3) := by decide +kernel
theorem dX8_settle_18 : decode cX8_settle 18 = .ok (.getfield 141, 3) := by decide +kernel
theorem dX8_settle_21 : decode cX8_settle 21 = .ok (.iload_n 1, 1) := by decide +kernel
theorem dX8_settle_22 : decode cX8_settle 22 = .ok (.iaload, 1) := by decide +kernel
theorem dX8_settle_23 : decode cX8_settle 23 = .ok (.bipush (-6), 2) := by decide +kernel
theorem dX8_settle_25 : decode cX8_settle 25 = .ok (.if_icmp .eq 6, 3) := by decide +kernel
theorem dX8_settle_28 : decode cX8_settle 28 = .ok (.bipush (-3), 2) := by decide +kernel
theorem dX8_settle_30 : decode cX8_settle 30 = .ok (.ireturn, 1) := by decide +kernel
theorem dX8_settle_31 : decode cX8_settle 31 = .ok (.aload_n 0, 1) := by decide +kernel
theorem dX8_settle_32 : decode cX8_settle 32 = .ok (.getfield 26, 3) := by decide +kernel
theorem dX8_settle_35 : decode cX8_settle 35 = .ok (.getfield 147, 3) := by decide +kernel
theorem dX8_settle_38 : decode cX8_settle 38 = .ok (.iload_n 1, 1) := by decide +kernel
theorem dX8_settle_39 : decode cX8_settle 39 = .ok (.iaload, 1) := by decide +kernel
theorem dX8_settle_40 : decode cX8_settle 40 = .ok (.istore_n 3, 1) := by decide +kernel
theorem dX8_settle_41 : decode cX8_settle 41 = .ok (.aload_n 0, 1) := by decide +kernel
theorem dX8_settle_42 : decode cX8_settle 42 = .ok (.getfield 26, 3) := by decide +kernel
theorem dX8_settle_45 : decode cX8_settle 45 = .ok (.getfield 147, 3) := by decide +kernel
theorem dX8_settle_48 : decode cX8_settle 48 = .ok (.iload_n 1, 1) := by decide +kernel
theorem dX8_settle_49 : decode cX8_settle 49 = .ok (.iload_n 2, 1) := by decide +kernel
theorem dX8_settle_50 : decode cX8_settle 50 = .ok (.iastore, 1) := by decide +kernel
theorem dX8_settle_51 : decode cX8_settle 51 = .ok (.aload_n 0, 1) := by decide +kernel
theorem dX8_settle_52 : decode cX8_settle 52 = .ok (.getfield 49, 3) := by decide +kernel
theorem dX8_settle_55 : decode cX8_settle 55 = .ok (.iload_n 1, 1) := by decide +kernel
theorem dX8_settle_56 : decode cX8_settle 56 = .ok (.invokevirtual 144, 3) := by decide +kernel
theorem dX8_settle_59 : decode cX8_settle 59 = .ok (.iload_n 3, 1) := by decide +kernel
theorem dX8_settle_60 : decode cX8_settle 60 = .ok (.ireturn, 1) := by decide +kernel
theorem dX8_show_0 : decode cX8_show 0 = .ok (.aload_n 0, 1) := by decide +kernel
theorem dX8_show_1 : decode cX8_show 1 = .ok (.getfield 26, 3) := by decide +kernel
theorem dX8_show_4 : decode cX8_show 4 = .ok (.iload_n 1, 1) := by decide +kernel
theorem dX8_show_5 : decode cX8_show 5 = .ok (.invokevirtual 150, 3) := by decide +kernel
theorem dX8_show_8 : decode cX8_show 8 = .ok (.ifCond .ne 5, 3) := by decide +kernel
theorem dX8_show_11 : decode cX8_show 11 = .ok (.iconst (-1), 1) := by decide +kernel
theorem dX8_show_12 : decode cX8_show 12 = .ok (.ireturn, 1) := by decide +kernel
theorem dX8_show_13 : decode cX8_show 13 = .ok (.iload_n 2, 1) := by decide +kernel
theorem dX8_show_14 : decode cX8_show 14 = .ok (.ifCond .lt 9, 3) := by decide +kernel
theorem dX8_show_17 : decode cX8_show 17 = .ok (.iload_n 2, 1) := by decide +kernel
theorem dX8_show_18 : decode cX8_show 18 = .ok (.bipush 15, 2) := by decide +kernel
theorem dX8_show_20 : decode cX8_show 20 = .ok (.if_icmp .le 6, 3) := by decide +kernel
theorem dX8_show_23 : decode cX8_show 23 = .ok (.bipush (-2), 2) := by decide +kernel
theorem dX8_show_25 : decode cX8_show 25 = .ok (.ireturn, 1) := by decide +kernel
theorem dX8_show_26 : decode cX8_show 26 = .ok (.aload_n 0, 1) := by decide +kernel
theorem dX8_show_27 : decode cX8_show 27 = .ok (.getfield 26, 3) := by decide +kernel
theorem dX8_show_30 : decode cX8_show 30 = .ok (.getfield 151, 3) := by decide +kernel
theorem dX8_show_33 : decode cX8_show 33 = .ok (.iload_n 1, 1) := by decide +kernel
theorem dX8_show_34 : decode cX8_show 34 = .ok (.iaload, 1) := by decide +kernel
theorem dX8_show_35 : decode cX8_show 35 = .ok (.istore_n 3, 1) := by decide +kernel
theorem dX8_show_36 : decode cX8_show 36 = .ok (.aload_n 0, 1) := by decide +kernel
theorem dX8_show_37 : decode cX8_show 37 = .ok (.getfield 26, 3) := by decide +kernel
theorem dX8_show_40 : decode cX8_show 40 = .ok (.getfield 151, 3) := by decide +kernel
theorem dX8_show_43 : decode cX8_show 43 = .ok (.iload_n 1, 1) := by decide +kernel
theorem dX8_show_44 : decode cX8_show 44 = .ok (.iload_n 2, 1) := by decide +kernel
theorem dX8_show_45 : decode cX8_show 45 = .ok (.iastore, 1) := by decide +kernel
theorem dX8_show_46 : decode cX8_show 46 = .ok (.iload_n 3, 1) := by decide +kernel
theorem dX8_show_47 : decode cX8_show 47 = .ok (.ireturn, 1) := by decide +kernel
theorem dX8_ofItem_0 : decode cX8_ofItem 0 = .ok (.aload_n 0, 1) := by decide +kernel
theorem dX8_ofItem_1 : decode cX8_ofItem 1 = .ok (.getfield 26, 3) := by decide +kernel
theorem dX8_ofItem_4 : decode cX8_ofItem 4 = .ok (.iload_n 1, 1) := by decide +kernel
theorem dX8_ofItem_5 : decode cX8_ofItem 5 = .ok (.invokevirtual 150, 3) := by decide +kernel
theorem dX8_ofItem_8 : decode cX8_ofItem 8 = .ok (.ifCond .ne 5, 3) := by decide +kernel
theorem dX8_ofItem_11 : decode cX8_ofItem 11 = .ok (.iconst (-1), 1) := by decide +kernel
theorem dX8_ofItem_12 : decode cX8_ofItem 12 = .ok (.ireturn, 1) := by decide +kernel
theorem dX8_ofItem_13 : decode cX8_ofItem 13 = .ok (.iload_n 2, 1) := by decide +kernel
theorem dX8_ofItem_14 : decode cX8_ofItem 14 = .ok (.tableswitch 152 0 9 #[54, 64, 74, 84, 94, 104, 118, 127, 136, 142], 54) := by decide +kernel
theorem dX8_ofItem_68 : decode cX8_ofItem 68 = .ok (.aload_n 0, 1) := by decide +kernel
theorem dX8_ofItem_69 : decode cX8_ofItem 69 = .ok (.getfield 26, 3) := by decide +kernel
theorem dX8_ofItem_72 : decode cX8_ofItem 72 = .ok (.getfield 154, 3) := by decide +kernel
theorem dX8_ofItem_75 : decode cX8_ofItem 75 = .ok (.iload_n 1, 1) := by decide +kernel
theorem dX8_ofItem_76 : decode cX8_ofItem 76 = .ok (.iaload, 1) := by decide +kernel
theorem dX8_ofItem_77 : decode cX8_ofItem 77 = .ok (.ireturn, 1) := by decide +kernel
theorem dX8_ofItem_78 : decode cX8_ofItem 78 = .ok (.aload_n 0, 1) := by decide +kernel
theorem dX8_ofItem_79 : decode cX8_ofItem 79 = .ok (.getfield 26, 3) := by decide +kernel
theorem dX8_ofItem_82 : decode cX8_ofItem 82 = .ok (.getfield 157, 3) := by decide +kernel
theorem dX8_ofItem_85 : decode cX8_ofItem 85 = .ok (.iload_n 1, 1) := by decide +kernel
theorem dX8_ofItem_86 : decode cX8_ofItem 86 = .ok (.iaload, 1) := by decide +kernel
theorem dX8_ofItem_87 : decode cX8_ofItem 87 = .ok (.ireturn, 1) := by decide +kernel
theorem dX8_ofItem_88 : decode cX8_ofItem 88 = .ok (.aload_n 0, 1) := by decide +kernel
theorem dX8_ofItem_89 : decode cX8_ofItem 89 = .ok (.getfield 26, 3) := by decide +kernel
theorem dX8_ofItem_92 : decode cX8_ofItem 92 = .ok (.getfield 160, 3) := by decide +kernel
theorem dX8_ofItem_95 : decode cX8_ofItem 95 = .ok (.iload_n 1, 1) := by decide +kernel
theorem dX8_ofItem_96 : decode cX8_ofItem 96 = .ok (.iaload, 1) := by decide +kernel
theorem dX8_ofItem_97 : decode cX8_ofItem 97 = .ok (.ireturn, 1) := by decide +kernel
theorem dX8_ofItem_98 : decode cX8_ofItem 98 = .ok (.aload_n 0, 1) := by decide +kernel
theorem dX8_ofItem_99 : decode cX8_ofItem 99 = .ok (.getfield 26, 3) := by decide +kernel
theorem dX8_ofItem_102 : decode cX8_ofItem 102 = .ok (.getfield 141, 3) := by decide +kernel
theorem dX8_ofItem_105 : decode cX8_ofItem 105 = .ok (.iload_n 1, 1) := by decide +kernel
theorem dX8_ofItem_106 : decode cX8_ofItem 106 = .ok (.iaload, 1) := by decide +kernel
theorem dX8_ofItem_107 : decode cX8_ofItem 107 = .ok (.ireturn, 1) := by decide +kernel
theorem dX8_ofItem_108 : decode cX8_ofItem 108 = .ok (.aload_n 0, 1) := by decide +kernel
theorem dX8_ofItem_109 : decode cX8_ofItem 109 = .ok (.getfield 26, 3) := by decide +kernel
theorem dX8_ofItem_112 : decode cX8_ofItem 112 = .ok (.getfield 147, 3) := by decide +kernel
theorem dX8_ofItem_115 : decode cX8_ofItem 115 = .ok (.iload_n 1, 1) := by decide +kernel
theorem dX8_ofItem_116 : decode cX8_ofItem 116 = .ok (.iaload, 1) := by decide +kernel
theorem dX8_ofItem_117 : decode cX8_ofItem 117 = .ok (.ireturn, 1) := by decide +kernel
theorem dX8_ofItem_118 : decode cX8_ofItem 118 = .ok (.aload_n 0, 1) := by decide +kernel
theorem dX8_ofItem_119 : decode cX8_ofItem 119 = .ok (.iload_n 1, 1) := by decide +kernel
theorem dX8_ofItem_120 : decode cX8_ofItem 120 = .ok (.invokevirtual 161, 3) := by decide +kernel
theorem dX8_ofItem_123 : decode cX8_ofItem 123 = .ok (.ifCond .eq 7, 3) := by decide +kernel
theorem dX8_ofItem_126 : decode cX8_ofItem 126 = .ok (.iconst 1, 1) := by decide +kernel
theorem dX8_ofItem_127 : decode cX8_ofItem 127 = .ok (.goto 4, 3) := by decide +kernel
theorem dX8_ofItem_130 : decode cX8_ofItem 130 = .ok (.iconst 0, 1) := by decide +kernel
theorem dX8_ofItem_131 : decode cX8_ofItem 131 = .ok (.ireturn, 1) := by decide +kernel
theorem dX8_ofItem_132 : decode cX8_ofItem 132 = .ok (.aload_n 0, 1) := by decide +kernel
theorem dX8_ofItem_133 : decode cX8_ofItem 133 = .ok (.getfield 33, 3) := by decide +kernel
theorem dX8_ofItem_136 : decode cX8_ofItem 136 = .ok (.iload_n 1, 1) := by decide +kernel
theorem dX8_ofItem_137 : decode cX8_ofItem 137 = .ok (.invokevirtual 164, 3) := by decide +kernel
theorem dX8_ofItem_140 : decode cX8_ofItem 140 = .ok (.ireturn, 1) := by decide +kernel
theorem dX8_ofItem_141 : decode cX8_ofItem 141 = .ok (.aload_n 0, 1) := by decide +kernel
theorem dX8_ofItem_142 : decode cX8_ofItem 142 = .ok (.getfield 49, 3) := by decide +kernel
theorem dX8_ofItem_145 : decode cX8_ofItem 145 = .ok (.iload_n 1, 1) := by decide +kernel
theorem dX8_ofItem_146 : decode cX8_ofItem 146 = .ok (.invokevirtual 168, 3) := by decide +kernel
theorem dX8_ofItem_149 : decode cX8_ofItem 149 = .ok (.ireturn, 1) := by decide +kernel
theorem dX8_ofItem_150 : decode cX8_ofItem 150 = .ok (.aload_n 0, 1) := by decide +kernel
theorem dX8_ofItem_151 : decode cX8_ofItem 151 = .ok (.iload_n 1, 1) := by decide +kernel
theorem dX8_ofItem_152 : decode cX8_ofItem 152 = .ok (.invokevirtual 171, 3) := by decide +kernel
theorem dX8_ofItem_155 : decode cX8_ofItem 155 = .ok (.ireturn, 1) := by decide +kernel
theorem dX8_ofItem_156 : decode cX8_ofItem 156 = .ok (.aload_n 0, 1) := by decide +kernel
theorem dX8_ofItem_157 : decode cX8_ofItem 157 = .ok (.getfield 26, 3) := by decide +kernel
theorem dX8_ofItem_160 : decode cX8_ofItem 160 = .ok (.getfield 151, 3) := by decide +kernel
theorem dX8_ofItem_163 : decode cX8_ofItem 163 = .ok (.iload_n 1, 1) := by decide +kernel
theorem dX8_ofItem_164 : decode cX8_ofItem 164 = .ok (.iaload, 1) := by decide +kernel
theorem dX8_ofItem_165 : decode cX8_ofItem 165 = .ok (.ireturn, 1) := by decide +kernel
theorem dX8_ofItem_166 : decode cX8_ofItem 166 = .ok (.bipush (-2), 2) := by decide +kernel
theorem dX8_ofItem_168 : decode cX8_ofItem 168 = .ok (.ireturn, 1) := by decide +kernel
theorem dX8_hand_0 : decode cX8_hand 0 = .ok (.aload_n 0, 1) := by decide +kernel
theorem dX8_hand_1 : decode cX8_hand 1 = .ok (.getfield 33, 3) := by decide +kernel
theorem dX8_hand_4 : decode cX8_hand 4 = .ok (.getfield 102, 3) := by decide +kernel
theorem dX8_hand_7 : decode cX8_hand 7 = .ok (.bipush 10, 2) := by decide +kernel
theorem dX8_hand_9 : decode cX8_hand 9 = .ok (.if_icmp .lt 6, 3) := by decide +kernel
theorem dX8_hand_12 : decode cX8_hand 12 = .ok (.bipush (-4), 2) := by decide +kernel
theorem dX8_hand_14 : decode cX8_hand 14 = .ok (.ireturn, 1) := by decide +kernel
theorem dX8_hand_15 : decode cX8_hand 15 = .ok (.aload_n 0, 1) := by decide +kernel
theorem dX8_hand_16 : decode cX8_hand 16 = .ok (.getfield 33, 3) := by decide +kernel
theorem dX8_hand_19 : decode cX8_hand 19 = .ok (.invokevirtual 174, 3) := by decide +kernel
theorem dX8_hand_22 : decode cX8_hand 22 = .ok (.ireturn, 1) := by decide +kernel
theorem dX8_out_0 : decode cX8_out 0 = .ok (.aload_n 0, 1) := by decide +kernel
theorem dX8_out_1 : decode cX8_out 1 = .ok (.getfield 33, 3) := by decide +kernel
theorem dX8_out_4 : decode cX8_out 4 = .ok (.iload_n 1, 1) := by decide +kernel
theorem dX8_out_5 : decode cX8_out 5 = .ok (.invokevirtual 176, 3) := by decide +kernel
theorem dX8_out_8 : decode cX8_out 8 = .ok (.ifCond .ne 5, 3) := by decide +kernel
theorem dX8_out_11 : decode cX8_out 11 = .ok (.iconst (-1), 1) := by decide +kernel
theorem dX8_out_12 : decode cX8_out 12 = .ok (.ireturn, 1) := by decide +kernel
theorem dX8_out_13 : decode cX8_out 13 = .ok (.aload_n 0, 1) := by decide +kernel
theorem dX8_out_14 : decode cX8_out 14 = .ok (.getfield 33, 3) := by decide +kernel
theorem dX8_out_17 : decode cX8_out 17 = .ok (.getfield 177, 3) := by decide +kernel
theorem dX8_out_20 : decode cX8_out 20 = .ok (.iload_n 1, 1) := by decide +kernel
theorem dX8_out_21 : decode cX8_out 21 = .ok (.baload, 1) := by decide +kernel
theorem dX8_out_22 : decode cX8_out 22 = .ok (.istore_n 3, 1) := by decide +kernel
theorem dX8_out_23 : decode cX8_out 23 = .ok (.aload_n 0, 1) := by decide +kernel
theorem dX8_out_24 : decode cX8_out 24 = .ok (.getfield 33, 3) := by decide +kernel
theorem dX8_out_27 : decode cX8_out 27 = .ok (.getfield 177, 3) := by decide +kernel
theorem dX8_out_30 : decode cX8_out 30 = .ok (.iload_n 1, 1) := by decide +kernel
theorem dX8_out_31 : decode cX8_out 31 = .ok (.iload_n 2, 1) := by decide +kernel
theorem dX8_out_32 : decode cX8_out 32 = .ok (.bastore, 1) := by decide +kernel
theorem dX8_out_33 : decode cX8_out 33 = .ok (.iload_n 3, 1) := by decide +kernel
theorem dX8_out_34 : decode cX8_out 34 = .ok (.ifCond .eq 7, 3) := by decide +kernel
theorem dX8_out_37 : decode cX8_out 37 = .ok (.iconst 1, 1) := by decide +kernel
theorem dX8_out_38 : decode cX8_out 38 = .ok (.goto 4, 3) := by decide +kernel
theorem dX8_out_41 : decode cX8_out 41 = .ok (.iconst 0, 1) := by decide +kernel
theorem dX8_out_42 : decode cX8_out 42 = .ok (.ireturn, 1) := by decide +kernel
theorem dX8_answer_0 : decode cX8_answer 0 = .ok (.aload_n 0, 1) := by decide +kernel
theorem dX8_answer_1 : decode cX8_answer 1 = .ok (.getfield 33, 3) := by decide +kernel
theorem dX8_answer_4 : decode cX8_answer 4 = .ok (.iload_n 1, 1) := by decide +kernel
theorem dX8_answer_5 : decode cX8_answer 5 = .ok (.invokevirtual 176, 3) := by decide +kernel
theorem dX8_answer_8 : decode cX8_answer 8 = .ok (.ifCond .eq 15, 3) := by decide +kernel
theorem dX8_answer_11 : decode cX8_answer 11 = .ok (.aload_n 0, 1) := by decide +kernel
theorem dX8_answer_12 : decode cX8_answer 12 = .ok (.getfield 26, 3) := by decide +kernel
theorem dX8_answer_15 : decode cX8_answer 15 = .ok (.iload_n 2, 1) := by decide +kernel
theorem dX8_answer_16 : decode cX8_answer 16 = .ok (.iload_n 3, 1) := by decide +kernel
theorem dX8_answer_17 : decode cX8_answer 17 = .ok (.invokevirtual 131, 3) := by decide +kernel
theorem dX8_answer_20 : decode cX8_answer 20 = .ok (.ifCond .ne 5, 3) := by decide +kernel
theorem dX8_answer_23 : decode cX8_answer 23 = .ok (.iconst (-1), 1) := by decide +kernel
theorem dX8_answer_24 : decode cX8_answer 24 = .ok (.ireturn, 1) := by decide +kernel
theorem dX8_answer_25 : decode cX8_answer 25 = .ok (.aload_n 0, 1) := by decide +kernel
theorem dX8_answer_26 : decode cX8_answer 26 = .ok (.getfield 33, 3) := by decide +kernel
theorem dX8_answer_29 : decode cX8_answer 29 = .ok (.getfield 177, 3) := by decide +kernel
theorem dX8_answer_32 : decode cX8_answer 32 = .ok (.iload_n 1, 1) := by decide +kernel
theorem dX8_answer_33 : decode cX8_answer 33 = .ok (.baload, 1) := by decide +kernel
theorem dX8_answer_34 : decode cX8_answer 34 = .ok (.ifCond .ne 11, 3) := by decide +kernel
theorem dX8_answer_37 : decode cX8_answer 37 = .ok (.aload_n 0, 1) := by decide +kernel
theorem dX8_answer_38 : decode cX8_answer 38 = .ok (.iload_n 2, 1) := by decide +kernel
theorem dX8_answer_39 : decode cX8_answer 39 = .ok (.invokevirtual 161, 3) := by decide +kernel
theorem dX8_answer_42 : decode cX8_answer 42 = .ok (.ifCond .ne 6, 3) := by decide +kernel
theorem dX8_answer_45 : decode cX8_answer 45 = .ok (.bipush (-3), 2) := by decide +kernel
theorem dX8_answer_47 : decode cX8_answer 47 = .ok (.ireturn, 1) := by decide +kernel
theorem dX8_answer_48 : decode cX8_answer 48 = .ok (.aload_n 0, 1) := by decide +kernel
theorem dX8_answer_49 : decode cX8_answer 49 = .ok (.getfield 33, 3) := by decide +kernel
theorem dX8_answer_52 : decode cX8_answer 52 = .ok (.getfield 181, 3) := by decide +kernel
theorem dX8_answer_55 : decode cX8_answer 55 = .ok (.iload_n 1, 1) := by decide +kernel
theorem dX8_answer_56 : decode cX8_answer 56 = .ok (.aaload, 1) := by decide +kernel
theorem dX8_answer_57 : decode cX8_answer 57 = .ok (.iload_n 2, 1) := by decide +kernel
theorem dX8_answer_58 : decode cX8_answer 58 = .ok (.iaload, 1) := by decide +kernel
theorem dX8_answer_59 : decode cX8_answer 59 = .ok (.bipush (-6), 2) := by decide +kernel
theorem dX8_answer_61 : decode cX8_answer 61 = .ok (.if_icmp .eq 6, 3) := by decide +kernel
theorem dX8_answer_64 : decode cX8_answer 64 = .ok (.bipush (-5), 2) := by decide +kernel
theorem dX8_answer_66 : decode cX8_answer 66 = .ok (.ireturn, 1) := by decide +kernel
theorem dX8_answer_67 : decode cX8_answer 67 = .ok (.aload_n 0, 1) := by decide +kernel
theorem dX8_answer_68 : decode cX8_answer 68 = .ok (.getfield 33, 3) := by decide +kernel
theorem dX8_answer_71 : decode cX8_answer 71 = .ok (.getfield 181, 3) := by decide +kernel
theorem dX8_answer_74 : decode cX8_answer 74 = .ok (.iload_n 1, 1) := by decide +kernel
theorem dX8_answer_75 : decode cX8_answer 75 = .ok (.aaload, 1) := by decide +kernel
theorem dX8_answer_76 : decode cX8_answer 76 = .ok (.iload_n 2, 1) := by decide +kernel
theorem dX8_answer_77 : decode cX8_answer 77 = .ok (.iload_n 3, 1) := by decide +kernel
theorem dX8_answer_78 : decode cX8_answer 78 = .ok (.iastore, 1) := by decide +kernel
theorem dX8_answer_79 : decode cX8_answer 79 = .ok (.iconst 1, 1) := by decide +kernel
theorem dX8_answer_80 : decode cX8_answer 80 = .ok (.ireturn, 1) := by decide +kernel
theorem dX8_back_0 : decode cX8_back 0 = .ok (.aload_n 0, 1) := by decide +kernel
theorem dX8_back_1 : decode cX8_back 1 = .ok (.getfield 33, 3) := by decide +kernel
theorem dX8_back_4 : decode cX8_back 4 = .ok (.iload_n 1, 1) := by decide +kernel
theorem dX8_back_5 : decode cX8_back 5 = .ok (.invokevirtual 176, 3) := by decide +kernel
theorem dX8_back_8 : decode cX8_back 8 = .ok (.ifCond .eq 14, 3) := by decide +kernel
theorem dX8_back_11 : decode cX8_back 11 = .ok (.aload_n 0, 1) := by decide +kernel
theorem dX8_back_12 : decode cX8_back 12 = .ok (.getfield 26, 3) := by decide +kernel
theorem dX8_back_15 : decode cX8_back 15 = .ok (.iload_n 2, 1) := by decide +kernel
theorem dX8_back_16 : decode cX8_back 16 = .ok (.invokevirtual 150, 3) := by decide +kernel
theorem dX8_back_19 : decode cX8_back 19 = .ok (.ifCond .ne 5, 3) := by decide +kernel
theorem dX8_back_22 : decode cX8_back 22 = .ok (.iconst (-1), 1) := by decide +kernel
theorem dX8_back_23 : decode cX8_back 23 = .ok (.ireturn, 1) := by decide +kernel
theorem dX8_back_24 : decode cX8_back 24 = .ok (.aload_n 0, 1) := by decide +kernel
theorem dX8_back_25 : decode cX8_back 25 = .ok (.getfield 33, 3) := by decide +kernel
theorem dX8_back_28 : decode cX8_back 28 = .ok (.getfield 181, 3) := by decide +kernel
theorem dX8_back_31 : decode cX8_back 31 = .ok (.iload_n 1, 1) := by decide +kernel
theorem dX8_back_32 : decode cX8_back 32 = .ok (.aaload, 1) := by decide +kernel
theorem dX8_back_33 : decode cX8_back 33 = .ok (.iload_n 2, 1) := by decide +kernel
theorem dX8_back_34 : decode cX8_back 34 = .ok (.iaload, 1) := by decide +kernel
theorem dX8_back_35 : decode cX8_back 35 = .ok (.istore_n 3, 1) := by decide +kernel
theorem dX8_back_36 : decode cX8_back 36 = .ok (.iload_n 3, 1) := by decide +kernel
theorem dX8_back_37 : decode cX8_back 37 = .ok (.bipush (-6), 2) := by decide +kernel
theorem dX8_back_39 : decode cX8_back 39 = .ok (.if_icmp .ne 6, 3) := by decide +kernel
theorem dX8_back_42 : decode cX8_back 42 = .ok (.bipush (-5), 2) := by decide +kernel
theorem dX8_back_44 : decode cX8_back 44 = .ok (.ireturn, 1) := by decide +kernel
theorem dX8_back_45 : decode cX8_back 45 = .ok (.aload_n 0, 1) := by decide +kernel
theorem dX8_back_46 : decode cX8_back 46 = .ok (.getfield 33, 3) := by decide +kernel
theorem dX8_back_49 : decode cX8_back 49 = .ok (.getfield 181, 3) := by decide +kernel
theorem dX8_back_52 : decode cX8_back 52 = .ok (.iload_n 1, 1) := by decide +kernel
theorem dX8_back_53 : decode cX8_back 53 = .ok (.aaload, 1) := by decide +kernel
theorem dX8_back_54 : decode cX8_back 54 = .ok (.iload_n 2, 1) := by decide +kernel
theorem dX8_back_55 : decode cX8_back 55 = .ok (.bipush (-6), 2) := by decide +kernel
theorem dX8_back_57 : decode cX8_back 57 = .ok (.iastore, 1) := by decide +kernel
theorem dX8_back_58 : decode cX8_back 58 = .ok (.iload_n 3, 1) := by decide +kernel
theorem dX8_back_59 : decode cX8_back 59 = .ok (.ireturn, 1) := by decide +kernel
theorem dX8_said_0 : decode cX8_said 0 = .ok (.aload_n 0, 1) := by decide +kernel
theorem dX8_said_1 : decode cX8_said 1 = .ok (.getfield 33, 3) := by decide +kernel
theorem dX8_said_4 : decode cX8_said 4 = .ok (.iload_n 1, 1) := by decide +kernel
theorem dX8_said_5 : decode cX8_said 5 = .ok (.invokevirtual 176, 3) := by decide +kernel
theorem dX8_said_8 : decode cX8_said 8 = .ok (.ifCond .eq 14, 3) := by decide +kernel
theorem dX8_said_11 : decode cX8_said 11 = .ok (.aload_n 0, 1) := by decide +kernel
theorem dX8_said_12 : decode cX8_said 12 = .ok (.getfield 26, 3) := by decide +kernel
theorem dX8_said_15 : decode cX8_said 15 = .ok (.iload_n 2, 1) := by decide +kernel
theorem dX8_said_16 : decode cX8_said 16 = .ok (.invokevirtual 150, 3) := by decide +kernel
theorem dX8_said_19 : decode cX8_said 19 = .ok (.ifCond .ne 5, 3) := by decide +kernel
theorem dX8_said_22 : decode cX8_said 22 = .ok (.iconst (-1), 1) := by decide +kernel
theorem dX8_said_23 : decode cX8_said 23 = .ok (.ireturn, 1) := by decide +kernel
theorem dX8_said_24 : decode cX8_said 24 = .ok (.aload_n 0, 1) := by decide +kernel
theorem dX8_said_25 : decode cX8_said 25 = .ok (.getfield 33, 3) := by decide +kernel
theorem dX8_said_28 : decode cX8_said 28 = .ok (.getfield 181, 3) := by decide +kernel
theorem dX8_said_31 : decode cX8_said 31 = .ok (.iload_n 1, 1) := by decide +kernel
theorem dX8_said_32 : decode cX8_said 32 = .ok (.aaload, 1) := by decide +kernel
theorem dX8_said_33 : decode cX8_said 33 = .ok (.iload_n 2, 1) := by decide +kernel
theorem dX8_said_34 : decode cX8_said 34 = .ok (.iaload, 1) := by decide +kernel
theorem dX8_said_35 : decode cX8_said 35 = .ok (.ireturn, 1) := by decide +kernel
theorem dX8_set_0 : decode cX8_set 0 = .ok (.iload_n 1, 1) := by decide +kernel
theorem dX8_set_1 : decode cX8_set 1 = .ok (.iload_n 2, 1) := by decide +kernel
theorem dX8_set_2 : decode cX8_set 2 = .ok (.invokestatic 185, 3) := by decide +kernel
theorem dX8_set_5 : decode cX8_set 5 = .ok (.ifCond .ne 6, 3) := by decide +kernel
theorem dX8_set_8 : decode cX8_set 8 = .ok (.bipush (-2), 2) := by decide +kernel
theorem dX8_set_10 : decode cX8_set 10 = .ok (.ireturn, 1) := by decide +kernel
theorem dX8_set_11 : decode cX8_set 11 = .ok (.aload_n 0, 1) := by decide +kernel
theorem dX8_set_12 : decode cX8_set 12 = .ok (.getfield 40, 3) := by decide +kernel
theorem dX8_set_15 : decode cX8_set 15 = .ok (.getfield 188, 3) := by decide +kernel
theorem dX8_set_18 : decode cX8_set 18 = .ok (.iload_n 1, 1) := by decide +kernel
theorem dX8_set_19 : decode cX8_set 19 = .ok (.iaload, 1) := by decide +kernel
theorem dX8_set_20 : decode cX8_set 20 = .ok (.istore_n 3, 1) := by decide +kernel
theorem dX8_set_21 : decode cX8_set 21 = .ok (.aload_n 0, 1) := by decide +kernel
theorem dX8_set_22 : decode cX8_set 22 = .ok (.getfield 40, 3) := by decide +kernel
theorem dX8_set_25 : decode cX8_set 25 = .ok (.getfield 188, 3) := by decide +kernel
theorem dX8_set_28 : decode cX8_set 28 = .ok (.iload_n 1, 1) := by decide +kernel
theorem dX8_set_29 : decode cX8_set 29 = .ok (.iload_n 2, 1) := by decide +kernel
theorem dX8_set_30 : decode cX8_set 30 = .ok (.iastore, 1) := by decide +kernel
theorem dX8_set_31 : decode cX8_set 31 = .ok (.iload_n 3, 1) := by decide +kernel
theorem dX8_set_32 : decode cX8_set 32 = .ok (.ireturn, 1) := by decide +kernel
theorem dX8_join_0 : decode cX8_join 0 = .ok (.aload_n 0, 1) := by decide +kernel
theorem dX8_join_1 : decode cX8_join 1 = .ok (.aload_n 0, 1) := by decide +kernel
theorem dX8_join_2 : decode cX8_join 2 = .ok (.getfield 33, 3) := by decide +kernel
theorem dX8_join_5 : decode cX8_join 5 = .ok (.getfield 102, 3) := by decide +kernel
theorem dX8_join_8 : decode cX8_join 8 = .ok (.putfield 70, 3) := by decide +kernel
theorem dX8_join_11 : decode cX8_join 11 = .ok (.aload_n 0, 1) := by decide +kernel
theorem dX8_join_12 : decode cX8_join 12 = .ok (.getfield 49, 3) := by decide +kernel
theorem dX8_join_15 : decode cX8_join 15 = .ok (.invokevirtual 191, 3) := by decide +kernel
theorem dX8_join_18 : decode cX8_join 18 = .ok (.ireturn, 1) := by decide +kernel
theorem dX8_share_0 : decode cX8_share 0 = .ok (.aload_n 0, 1) := by decide +kernel
theorem dX8_share_1 : decode cX8_share 1 = .ok (.getfield 26, 3) := by decide +kernel
theorem dX8_share_4 : decode cX8_share 4 = .ok (.iload_n 1, 1) := by decide +kernel
theorem dX8_share_5 : decode cX8_share 5 = .ok (.iload_n 2, 1) := by decide +kernel
theorem dX8_share_6 : decode cX8_share 6 = .ok (.invokevirtual 131, 3) := by decide +kernel
theorem dX8_share_9 : decode cX8_share 9 = .ok (.ifCond .ne 5, 3) := by decide +kernel
theorem dX8_share_12 : decode cX8_share 12 = .ok (.iconst (-1), 1) := by decide +kernel
theorem dX8_share_13 : decode cX8_share 13 = .ok (.ireturn, 1) := by decide +kernel
theorem dX8_share_14 : decode cX8_share 14 = .ok (.aload_n 0, 1) := by decide +kernel
theorem dX8_share_15 : decode cX8_share 15 = .ok (.getfield 49, 3) := by decide +kernel
theorem dX8_share_18 : decode cX8_share 18 = .ok (.getfield 194, 3) := by decide +kernel
theorem dX8_share_21 : decode cX8_share 21 = .ok (.iload_n 1, 1) := by decide +kernel
theorem dX8_share_22 : decode cX8_share 22 = .ok (.aaload, 1) := by decide +kernel
theorem dX8_share_23 : decode cX8_share 23 = .ok (.iload_n 2, 1) := by decide +kernel
theorem dX8_share_24 : decode cX8_share 24 = .ok (.iaload, 1) := by decide +kernel
theorem dX8_share_25 : decode cX8_share 25 = .ok (.ireturn, 1) := by decide +kernel
theorem dX8_table_0 : decode cX8_table 0 = .ok (.aload_n 0, 1) := by decide +kernel
theorem dX8_table_1 : decode cX8_table 1 = .ok (.getfield 33, 3) := by decide +kernel
theorem dX8_table_4 : decode cX8_table 4 = .ok (.iload_n 1, 1) := by decide +kernel
theorem dX8_table_5 : decode cX8_table 5 = .ok (.invokevirtual 176, 3) := by decide +kernel
theorem dX8_table_8 : decode cX8_table 8 = .ok (.ifCond .ne 5, 3) := by decide +kernel
theorem dX8_table_11 : decode cX8_table 11 = .ok (.iconst (-1), 1) := by decide +kernel
theorem dX8_table_12 : decode cX8_table 12 = .ok (.ireturn, 1) := by decide +kernel
theorem dX8_table_13 : decode cX8_table 13 = .ok (.iload_n 2, 1) := by decide +kernel
theorem dX8_table_14 : decode cX8_table 14 = .ok (.iconst 2, 1) := by decide +kernel
theorem dX8_table_15 : decode cX8_table 15 = .ok (.if_icmp .lt 28, 3) := by decide +kernel
theorem dX8_table_18 : decode cX8_table 18 = .ok (.iload_n 2, 1) := by decide +kernel
theorem dX8_table_19 : decode cX8_table 19 = .ok (.iconst 4, 1) := by decide +kernel
theorem dX8_table_20 : decode cX8_table 20 = .ok (.if_icmp .gt 23, 3) := by decide +kernel
theorem dX8_table_23 : decode cX8_table 23 = .ok (.iload_n 3, 1) := by decide +kernel
theorem dX8_table_24 : decode cX8_table 24 = .ok (.ifCond .lt 19, 3) := by decide +kernel
theorem dX8_table_27 : decode cX8_table 27 = .ok (.iload_n 3, 1) := by decide +kernel
theorem dX8_table_28 : decode cX8_table 28 = .ok (.iload_n 2, 1) := by decide +kernel
theorem dX8_table_29 : decode cX8_table 29 = .ok (.if_icmp .ge 14, 3) := by decide +kernel
theorem dX8_table_32 : decode cX8_table 32 = .ok (.iload 4, 2) := by decide +kernel
theorem dX8_table_34 : decode cX8_table 34 = .ok (.ifCond .lt 9, 3) := by decide +kernel
theorem dX8_table_37 : decode cX8_table 37 = .ok (.iload 4, 2) := by decide +kernel
theorem dX8_table_39 : decode cX8_table 39 = .ok (.iload_n 2, 1) := by decide +kernel
theorem dX8_table_40 : decode cX8_table 40 = .ok (.if_icmp .lt 6, 3) := by decide +kernel
theorem dX8_table_43 : decode cX8_table 43 = .ok (.bipush (-2), 2) := by decide +kernel
theorem dX8_table_45 : decode cX8_table 45 = .ok (.ireturn, 1) := by decide +kernel
theorem dX8_table_46 : decode cX8_table 46 = .ok (.iload_n 1, 1) := by decide +kernel
theorem dX8_table_47 : decode cX8_table 47 = .ok (.aload_n 0, 1) := by decide +kernel
theorem dX8_table_48 : decode cX8_table 48 = .ok (.getfield 70, 3) := by decide +kernel
theorem dX8_table_51 : decode cX8_table 51 = .ok (.if_icmp .ge 23, 3) := by decide +kernel
theorem dX8_table_54 : decode cX8_table 54 = .ok (.aload_n 0, 1) := by decide +kernel
theorem dX8_table_55 : decode cX8_table 55 = .ok (.getfield 49, 3) := by decide +kernel
theorem dX8_table_58 : decode cX8_table 58 = .ok (.getfield 197, 3) := by decide +kernel
theorem dX8_table_61 : decode cX8_table 61 = .ok (.iload_n 1, 1) := by decide +kernel
theorem dX8_table_62 : decode cX8_table 62 = .ok (.aaload, 1) := by decide +kernel
theorem dX8_table_63 : decode cX8_table 63 = .ok (.iload_n 2, 1) := by decide +kernel
