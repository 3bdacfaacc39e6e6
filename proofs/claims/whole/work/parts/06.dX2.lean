theorem dX2_init_0 : decode cX2_init 0 = .ok (.aload_n 0, 1) := by decide +kernel
theorem dX2_init_1 : decode cX2_init 1 = .ok (.invokespecial 1, 3) := by decide +kernel
theorem dX2_init_4 : decode cX2_init 4 = .ok (.aload_n 0, 1) := by decide +kernel
theorem dX2_init_5 : decode cX2_init 5 = .ok (.new 7, 3) := by decide +kernel
theorem dX2_init_8 : decode cX2_init 8 = .ok (.dup, 1) := by decide +kernel
theorem dX2_init_9 : decode cX2_init 9 = .ok (.invokespecial 9, 3) := by decide +kernel
theorem dX2_init_12 : decode cX2_init 12 = .ok (.putfield 10, 3) := by decide +kernel
theorem dX2_init_15 : decode cX2_init 15 = .ok (.aload_n 0, 1) := by decide +kernel
theorem dX2_init_16 : decode cX2_init 16 = .ok (.new 16, 3) := by decide +kernel
theorem dX2_init_19 : decode cX2_init 19 = .ok (.dup, 1) := by decide +kernel
theorem dX2_init_20 : decode cX2_init 20 = .ok (.invokespecial 18, 3) := by decide +kernel
theorem dX2_init_23 : decode cX2_init 23 = .ok (.putfield 19, 3) := by decide +kernel
theorem dX2_init_26 : decode cX2_init 26 = .ok (.aload_n 0, 1) := by decide +kernel
theorem dX2_init_27 : decode cX2_init 27 = .ok (.iconst (-1), 1) := by decide +kernel
theorem dX2_init_28 : decode cX2_init 28 = .ok (.putfield 23, 3) := by decide +kernel
theorem dX2_init_31 : decode cX2_init 31 = .ok (.return_, 1) := by decide +kernel
theorem dX2_tick_0 : decode cX2_tick 0 = .ok (.aload_n 0, 1) := by decide +kernel
theorem dX2_tick_1 : decode cX2_tick 1 = .ok (.getfield 10, 3) := by decide +kernel
theorem dX2_tick_4 : decode cX2_tick 4 = .ok (.getfield 27, 3) := by decide +kernel
theorem dX2_tick_7 : decode cX2_tick 7 = .ok (.bipush 39, 2) := by decide +kernel
theorem dX2_tick_9 : decode cX2_tick 9 = .ok (.if_icmp .lt 11, 3) := by decide +kernel
theorem dX2_tick_12 : decode cX2_tick 12 = .ok (.new 30, 3) := by decide +kernel
theorem dX2_tick_15 : decode cX2_tick 15 = .ok (.dup, 1) := by decide +kernel
theorem dX2_tick_16 : decode cX2_tick 16 = .ok (.invokespecial 32, 3) := by decide +kernel
theorem dX2_tick_19 : decode cX2_tick 19 = .ok (.athrow, 1) := by decide +kernel
theorem dX2_tick_20 : decode cX2_tick 20 = .ok (.aload_n 0, 1) := by decide +kernel
theorem dX2_tick_21 : decode cX2_tick 21 = .ok (.getfield 10, 3) := by decide +kernel
theorem dX2_tick_24 : decode cX2_tick 24 = .ok (.invokevirtual 33, 3) := by decide +kernel
theorem dX2_tick_27 : decode cX2_tick 27 = .ok (.aload_n 0, 1) := by decide +kernel
theorem dX2_tick_28 : decode cX2_tick 28 = .ok (.getfield 10, 3) := by decide +kernel
theorem dX2_tick_31 : decode cX2_tick 31 = .ok (.getfield 27, 3) := by decide +kernel
theorem dX2_tick_34 : decode cX2_tick 34 = .ok (.ireturn, 1) := by decide +kernel
theorem dX2_clock_0 : decode cX2_clock 0 = .ok (.aload_n 0, 1) := by decide +kernel
theorem dX2_clock_1 : decode cX2_clock 1 = .ok (.getfield 10, 3) := by decide +kernel
theorem dX2_clock_4 : decode cX2_clock 4 = .ok (.getfield 27, 3) := by decide +kernel
theorem dX2_clock_7 : decode cX2_clock 7 = .ok (.ireturn, 1) := by decide +kernel
theorem dX2_state_0 : decode cX2_state 0 = .ok (.aload_n 0, 1) := by decide +kernel
theorem dX2_state_1 : decode cX2_state 1 = .ok (.getfield 10, 3) := by decide +kernel
theorem dX2_state_4 : decode cX2_state 4 = .ok (.invokevirtual 36, 3) := by decide +kernel
theorem dX2_state_7 : decode cX2_state 7 = .ok (.aload_n 0, 1) := by decide +kernel
theorem dX2_state_8 : decode cX2_state 8 = .ok (.getfield 10, 3) := by decide +kernel
theorem dX2_state_11 : decode cX2_state 11 = .ok (.iload_n 1, 1) := by decide +kernel
theorem dX2_state_12 : decode cX2_state 12 = .ok (.iload_n 2, 1) := by decide +kernel
theorem dX2_state_13 : decode cX2_state 13 = .ok (.iload_n 3, 1) := by decide +kernel
theorem dX2_state_14 : decode cX2_state 14 = .ok (.iload 4, 2) := by decide +kernel
theorem dX2_state_16 : decode cX2_state 16 = .ok (.iload 5, 2) := by decide +kernel
theorem dX2_state_18 : decode cX2_state 18 = .ok (.invokevirtual 39, 3) := by decide +kernel
theorem dX2_state_21 : decode cX2_state 21 = .ok (.istore 6, 2) := by decide +kernel
theorem dX2_state_23 : decode cX2_state 23 = .ok (.iload 6, 2) := by decide +kernel
theorem dX2_state_25 : decode cX2_state 25 = .ok (.ifCond .ge 15, 3) := by decide +kernel
theorem dX2_state_28 : decode cX2_state 28 = .ok (.aload_n 0, 1) := by decide +kernel
theorem dX2_state_29 : decode cX2_state 29 = .ok (.getfield 10, 3) := by decide +kernel
theorem dX2_state_32 : decode cX2_state 32 = .ok (.invokevirtual 43, 3) := by decide +kernel
theorem dX2_state_35 : decode cX2_state 35 = .ok (.iload 6, 2) := by decide +kernel
theorem dX2_state_37 : decode cX2_state 37 = .ok (.invokestatic 46, 3) := by decide +kernel
theorem dX2_state_40 : decode cX2_state 40 = .ok (.iload 6, 2) := by decide +kernel
theorem dX2_state_42 : decode cX2_state 42 = .ok (.ireturn, 1) := by decide +kernel
theorem dX2_queue_0 : decode cX2_queue 0 = .ok (.aload_n 0, 1) := by decide +kernel
theorem dX2_queue_1 : decode cX2_queue 1 = .ok (.getfield 19, 3) := by decide +kernel
theorem dX2_queue_4 : decode cX2_queue 4 = .ok (.iload_n 1, 1) := by decide +kernel
theorem dX2_queue_5 : decode cX2_queue 5 = .ok (.iload_n 2, 1) := by decide +kernel
theorem dX2_queue_6 : decode cX2_queue 6 = .ok (.iload_n 3, 1) := by decide +kernel
theorem dX2_queue_7 : decode cX2_queue 7 = .ok (.iload 4, 2) := by decide +kernel
theorem dX2_queue_9 : decode cX2_queue 9 = .ok (.iload 5, 2) := by decide +kernel
theorem dX2_queue_11 : decode cX2_queue 11 = .ok (.invokevirtual 50, 3) := by decide +kernel
theorem dX2_queue_14 : decode cX2_queue 14 = .ok (.ireturn, 1) := by decide +kernel
theorem dX2_commit_0 : decode cX2_commit 0 = .ok (.aload_n 0, 1) := by decide +kernel
theorem dX2_commit_1 : decode cX2_commit 1 = .ok (.getfield 10, 3) := by decide +kernel
theorem dX2_commit_4 : decode cX2_commit 4 = .ok (.invokevirtual 36, 3) := by decide +kernel
theorem dX2_commit_7 : decode cX2_commit 7 = .ok (.aload_n 0, 1) := by decide +kernel
theorem dX2_commit_8 : decode cX2_commit 8 = .ok (.iconst (-1), 1) := by decide +kernel
theorem dX2_commit_9 : decode cX2_commit 9 = .ok (.putfield 23, 3) := by decide +kernel
theorem dX2_commit_12 : decode cX2_commit 12 = .ok (.iconst 0, 1) := by decide +kernel
theorem dX2_commit_13 : decode cX2_commit 13 = .ok (.istore_n 1, 1) := by decide +kernel
theorem dX2_commit_14 : decode cX2_commit 14 = .ok (.iconst 0, 1) := by decide +kernel
theorem dX2_commit_15 : decode cX2_commit 15 = .ok (.istore_n 2, 1) := by decide +kernel
theorem dX2_commit_16 : decode cX2_commit 16 = .ok (.iconst 0, 1) := by decide +kernel
theorem dX2_commit_17 : decode cX2_commit 17 = .ok (.istore_n 3, 1) := by decide +kernel
theorem dX2_commit_18 : decode cX2_commit 18 = .ok (.iload_n 3, 1) := by decide +kernel
theorem dX2_commit_19 : decode cX2_commit 19 = .ok (.aload_n 0, 1) := by decide +kernel
theorem dX2_commit_20 : decode cX2_commit 20 = .ok (.getfield 19, 3) := by decide +kernel
theorem dX2_commit_23 : decode cX2_commit 23 = .ok (.getfield 54, 3) := by decide +kernel
theorem dX2_commit_26 : decode cX2_commit 26 = .ok (.if_icmp .ge 92, 3) := by decide +kernel
theorem dX2_commit_29 : decode cX2_commit 29 = .ok (.aload_n 0, 1) := by decide +kernel
theorem dX2_commit_30 : decode cX2_commit 30 = .ok (.getfield 23, 3) := by decide +kernel
theorem dX2_commit_33 : decode cX2_commit 33 = .ok (.iconst (-1), 1) := by decide +kernel
theorem dX2_commit_34 : decode cX2_commit 34 = .ok (.if_icmp .ne 84, 3) := by decide +kernel
theorem dX2_commit_37 : decode cX2_commit 37 = .ok (.aload_n 0, 1) := by decide +kernel
theorem dX2_commit_38 : decode cX2_commit 38 = .ok (.getfield 10, 3) := by decide +kernel
theorem dX2_commit_41 : decode cX2_commit 41 = .ok (.aload_n 0, 1) := by decide +kernel
theorem dX2_commit_42 : decode cX2_commit 42 = .ok (.getfield 19, 3) := by decide +kernel
theorem dX2_commit_45 : decode cX2_commit 45 = .ok (.iload_n 3, 1) := by decide +kernel
theorem dX2_commit_46 : decode cX2_commit 46 = .ok (.iconst 0, 1) := by decide +kernel
theorem dX2_commit_47 : decode cX2_commit 47 = .ok (.invokevirtual 57, 3) := by decide +kernel
theorem dX2_commit_50 : decode cX2_commit 50 = .ok (.aload_n 0, 1) := by decide +kernel
theorem dX2_commit_51 : decode cX2_commit 51 = .ok (.getfield 19, 3) := by decide +kernel
theorem dX2_commit_54 : decode cX2_commit 54 = .ok (.iload_n 3, 1) := by decide +kernel
theorem dX2_commit_55 : decode cX2_commit 55 = .ok (.iconst 1, 1) := by decide +kernel
theorem dX2_commit_56 : decode cX2_commit 56 = .ok (.invokevirtual 57, 3) := by decide +kernel
theorem dX2_commit_59 : decode cX2_commit 59 = .ok (.aload_n 0, 1) := by decide +kernel
theorem dX2_commit_60 : decode cX2_commit 60 = .ok (.getfield 19, 3) := by decide +kernel
theorem dX2_commit_63 : decode cX2_commit 63 = .ok (.iload_n 3, 1) := by decide +kernel
theorem dX2_commit_64 : decode cX2_commit 64 = .ok (.iconst 2, 1) := by decide +kernel
theorem dX2_commit_65 : decode cX2_commit 65 = .ok (.invokevirtual 57, 3) := by decide +kernel
theorem dX2_commit_68 : decode cX2_commit 68 = .ok (.aload_n 0, 1) := by decide +kernel
theorem dX2_commit_69 : decode cX2_commit 69 = .ok (.getfield 19, 3) := by decide +kernel
theorem dX2_commit_72 : decode cX2_commit 72 = .ok (.iload_n 3, 1) := by decide +kernel
theorem dX2_commit_73 : decode cX2_commit 73 = .ok (.iconst 3, 1) := by decide +kernel
theorem dX2_commit_74 : decode cX2_commit 74 = .ok (.invokevirtual 57, 3) := by decide +kernel
theorem dX2_commit_77 : decode cX2_commit 77 = .ok (.aload_n 0, 1) := by decide +kernel
theorem dX2_commit_78 : decode cX2_commit 78 = .ok (.getfield 19, 3) := by decide +kernel
theorem dX2_commit_81 : decode cX2_commit 81 = .ok (.iload_n 3, 1) := by decide +kernel
theorem dX2_commit_82 : decode cX2_commit 82 = .ok (.iconst 4, 1) := by decide +kernel
theorem dX2_commit_83 : decode cX2_commit 83 = .ok (.invokevirtual 57, 3) := by decide +kernel
theorem dX2_commit_86 : decode cX2_commit 86 = .ok (.invokevirtual 39, 3) := by decide +kernel
theorem dX2_commit_89 : decode cX2_commit 89 = .ok (.istore 4, 2) := by decide +kernel
theorem dX2_commit_91 : decode cX2_commit 91 = .ok (.iload 4, 2) := by decide +kernel
theorem dX2_commit_93 : decode cX2_commit 93 = .ok (.ifCond .ge 14, 3) := by decide +kernel
theorem dX2_commit_96 : decode cX2_commit 96 = .ok (.aload_n 0, 1) := by decide +kernel
theorem dX2_commit_97 : decode cX2_commit 97 = .ok (.iload_n 3, 1) := by decide +kernel
theorem dX2_commit_98 : decode cX2_commit 98 = .ok (.putfield 23, 3) := by decide +kernel
theorem dX2_commit_101 : decode cX2_commit 101 = .ok (.iload 4, 2) := by decide +kernel
theorem dX2_commit_103 : decode cX2_commit 103 = .ok (.istore_n 2, 1) := by decide +kernel
theorem dX2_commit_104 : decode cX2_commit 104 = .ok (.goto 8, 3) := by decide +kernel
theorem dX2_commit_107 : decode cX2_commit 107 = .ok (.iload_n 1, 1) := by decide +kernel
theorem dX2_commit_108 : decode cX2_commit 108 = .ok (.iload 4, 2) := by decide +kernel
theorem dX2_commit_110 : decode cX2_commit 110 = .ok (.iadd, 1) := by decide +kernel
theorem dX2_commit_111 : decode cX2_commit 111 = .ok (.istore_n 1, 1) := by decide +kernel
theorem dX2_commit_112 : decode cX2_commit 112 = .ok (.iinc 3 1, 3) := by decide +kernel
theorem dX2_commit_115 : decode cX2_commit 115 = .ok (.goto (-97), 3) := by decide +kernel
theorem dX2_commit_118 : decode cX2_commit 118 = .ok (.aload_n 0, 1) := by decide +kernel
theorem dX2_commit_119 : decode cX2_commit 119 = .ok (.getfield 19, 3) := by decide +kernel
theorem dX2_commit_122 : decode cX2_commit 122 = .ok (.iconst 0, 1) := by decide +kernel
theorem dX2_commit_123 : decode cX2_commit 123 = .ok (.putfield 54, 3) := by decide +kernel
theorem dX2_commit_126 : decode cX2_commit 126 = .ok (.aload_n 0, 1) := by decide +kernel
theorem dX2_commit_127 : decode cX2_commit 127 = .ok (.getfield 23, 3) := by decide +kernel
theorem dX2_commit_130 : decode cX2_commit 130 = .ok (.iconst (-1), 1) := by decide +kernel
theorem dX2_commit_131 : decode cX2_commit 131 = .ok (.if_icmp .eq 14, 3) := by decide +kernel
theorem dX2_commit_134 : decode cX2_commit 134 = .ok (.aload_n 0, 1) := by decide +kernel
theorem dX2_commit_135 : decode cX2_commit 135 = .ok (.getfield 10, 3) := by decide +kernel
theorem dX2_commit_138 : decode cX2_commit 138 = .ok (.invokevirtual 43, 3) := by decide +kernel
theorem dX2_commit_141 : decode cX2_commit 141 = .ok (.iload_n 2, 1) := by decide +kernel
theorem dX2_commit_142 : decode cX2_commit 142 = .ok (.invokestatic 46, 3) := by decide +kernel
theorem dX2_commit_145 : decode cX2_commit 145 = .ok (.iload_n 1, 1) := by decide +kernel
theorem dX2_commit_146 : decode cX2_commit 146 = .ok (.ireturn, 1) := by decide +kernel
theorem dX2_failed_0 : decode cX2_failed 0 = .ok (.aload_n 0, 1) := by decide +kernel
theorem dX2_failed_1 : decode cX2_failed 1 = .ok (.getfield 23, 3) := by decide +kernel
theorem dX2_failed_4 : decode cX2_failed 4 = .ok (.ireturn, 1) := by decide +kernel
theorem dX2_value_0 : decode cX2_value 0 = .ok (.iload_n 1, 1) := by decide +kernel
theorem dX2_value_1 : decode cX2_value 1 = .ok (.invokestatic 61, 3) := by decide +kernel
theorem dX2_value_4 : decode cX2_value 4 = .ok (.ifCond .eq 18, 3) := by decide +kernel
theorem dX2_value_7 : decode cX2_value 7 = .ok (.iload_n 2, 1) := by decide +kernel
theorem dX2_value_8 : decode cX2_value 8 = .ok (.invokestatic 65, 3) := by decide +kernel
theorem dX2_value_11 : decode cX2_value 11 = .ok (.ifCond .eq 11, 3) := by decide +kernel
theorem dX2_value_14 : decode cX2_value 14 = .ok (.aload_n 0, 1) := by decide +kernel
theorem dX2_value_15 : decode cX2_value 15 = .ok (.iload_n 3, 1) := by decide +kernel
theorem dX2_value_16 : decode cX2_value 16 = .ok (.invokevirtual 68, 3) := by decide +kernel
theorem dX2_value_19 : decode cX2_value 19 = .ok (.ifCond .ne 11, 3) := by decide +kernel
theorem dX2_value_22 : decode cX2_value 22 = .ok (.new 71, 3) := by decide +kernel
theorem dX2_value_25 : decode cX2_value 25 = .ok (.dup, 1) := by decide +kernel
theorem dX2_value_26 : decode cX2_value 26 = .ok (.invokespecial 73, 3) := by decide +kernel
theorem dX2_value_29 : decode cX2_value 29 = .ok (.athrow, 1) := by decide +kernel
theorem dX2_value_30 : decode cX2_value 30 = .ok (.iload_n 3, 1) := by decide +kernel
theorem dX2_value_31 : decode cX2_value 31 = .ok (.iload_n 1, 1) := by decide +kernel
theorem dX2_value_32 : decode cX2_value 32 = .ok (.invokestatic 74, 3) := by decide +kernel
theorem dX2_value_35 : decode cX2_value 35 = .ok (.istore 4, 2) := by decide +kernel
theorem dX2_value_37 : decode cX2_value 37 = .ok (.aload_n 0, 1) := by decide +kernel
theorem dX2_value_38 : decode cX2_value 38 = .ok (.getfield 10, 3) := by decide +kernel
theorem dX2_value_41 : decode cX2_value 41 = .ok (.iload 4, 2) := by decide +kernel
theorem dX2_value_43 : decode cX2_value 43 = .ok (.iload_n 2, 1) := by decide +kernel
theorem dX2_value_44 : decode cX2_value 44 = .ok (.invokevirtual 77, 3) := by decide +kernel
theorem dX2_value_47 : decode cX2_value 47 = .ok (.ifCond .ne 11, 3) := by decide +kernel
theorem dX2_value_50 : decode cX2_value 50 = .ok (.new 81, 3) := by decide +kernel
theorem dX2_value_53 : decode cX2_value 53 = .ok (.dup, 1) := by decide +kernel
theorem dX2_value_54 : decode cX2_value 54 = .ok (.invokespecial 83, 3) := by decide +kernel
theorem dX2_value_57 : decode cX2_value 57 = .ok (.athrow, 1) := by decide +kernel
theorem dX2_value_58 : decode cX2_value 58 = .ok (.aload_n 0, 1) := by decide +kernel
theorem dX2_value_59 : decode cX2_value 59 = .ok (.getfield 10, 3) := by decide +kernel
theorem dX2_value_62 : decode cX2_value 62 = .ok (.iload 4, 2) := by decide +kernel
theorem dX2_value_64 : decode cX2_value 64 = .ok (.iload_n 2, 1) := by decide +kernel
theorem dX2_value_65 : decode cX2_value 65 = .ok (.invokevirtual 84, 3) := by decide +kernel
theorem dX2_value_68 : decode cX2_value 68 = .ok (.ireturn, 1) := by decide +kernel
theorem dX2_has_0 : decode cX2_has 0 = .ok (.iload_n 1, 1) := by decide +kernel
theorem dX2_has_1 : decode cX2_has 1 = .ok (.invokestatic 61, 3) := by decide +kernel
theorem dX2_has_4 : decode cX2_has 4 = .ok (.ifCond .eq 38, 3) := by decide +kernel
theorem dX2_has_7 : decode cX2_has 7 = .ok (.iload_n 2, 1) := by decide +kernel
theorem dX2_has_8 : decode cX2_has 8 = .ok (.invokestatic 65, 3) := by decide +kernel
theorem dX2_has_11 : decode cX2_has 11 = .ok (.ifCond .eq 31, 3) := by decide +kernel
theorem dX2_has_14 : decode cX2_has 14 = .ok (.aload_n 0, 1) := by decide +kernel
theorem dX2_has_15 : decode cX2_has 15 = .ok (.iload_n 3, 1) := by decide +kernel
theorem dX2_has_16 : decode cX2_has 16 = .ok (.invokevirtual 68, 3) := by decide +kernel
theorem dX2_has_19 : decode cX2_has 19 = .ok (.ifCond .eq 23, 3) := by decide +kernel
theorem dX2_has_22 : decode cX2_has 22 = .ok (.aload_n 0, 1) := by decide +kernel
theorem dX2_has_23 : decode cX2_has 23 = .ok (.getfield 10, 3) := by decide +kernel
theorem dX2_has_26 : decode cX2_has 26 = .ok (.iload_n 3, 1) := by decide +kernel
theorem dX2_has_27 : decode cX2_has 27 = .ok (.iload_n 1, 1) := by decide +kernel
theorem dX2_has_28 : decode cX2_has 28 = .ok (.invokestatic 74, 3) := by decide +kernel
theorem dX2_has_31 : decode cX2_has 31 = .ok (.iload_n 2, 1) := by decide +kernel
theorem dX2_has_32 : decode cX2_has 32 = .ok (.invokevirtual 77, 3) := by decide +kernel
theorem dX2_has_35 : decode cX2_has 35 = .ok (.ifCond .eq 7, 3) := by decide +kernel
theorem dX2_has_38 : decode cX2_has 38 = .ok (.iconst 1, 1) := by decide +kernel
theorem dX2_has_39 : decode cX2_has 39 = .ok (.goto 4, 3) := by decide +kernel
theorem dX2_has_42 : decode cX2_has 42 = .ok (.iconst 0, 1) := by decide +kernel
theorem dX2_has_43 : decode cX2_has 43 = .ok (.ireturn, 1) := by decide +kernel
theorem dX2_sum_0 : decode cX2_sum 0 = .ok (.iload_n 1, 1) := by decide +kernel
theorem dX2_sum_1 : decode cX2_sum 1 = .ok (.invokestatic 61, 3) := by decide +kernel
theorem dX2_sum_4 : decode cX2_sum 4 = .ok (.ifCond .eq 20, 3) := by decide +kernel
theorem dX2_sum_7 : decode cX2_sum 7 = .ok (.iload_n 2, 1) := by decide +kernel
theorem dX2_sum_8 : decode cX2_sum 8 = .ok (.iload_n 3, 1) := by decide +kernel
theorem dX2_sum_9 : decode cX2_sum 9 = .ok (.invokestatic 87, 3) := by decide +kernel
theorem dX2_sum_12 : decode cX2_sum 12 = .ok (.ifCond .eq 12, 3) := by decide +kernel
theorem dX2_sum_15 : decode cX2_sum 15 = .ok (.aload_n 0, 1) := by decide +kernel
theorem dX2_sum_16 : decode cX2_sum 16 = .ok (.iload 4, 2) := by decide +kernel
theorem dX2_sum_18 : decode cX2_sum 18 = .ok (.invokevirtual 68, 3) := by decide +kernel
theorem dX2_sum_21 : decode cX2_sum 21 = .ok (.ifCond .ne 11, 3) := by decide +kernel
theorem dX2_sum_24 : decode cX2_sum 24 = .ok (.new 71, 3) := by decide +kernel
theorem dX2_sum_27 : decode cX2_sum 27 = .ok (.dup, 1) := by decide +kernel
theorem dX2_sum_28 : decode cX2_sum 28 = .ok (.invokespecial 73, 3) := by decide +kernel
theorem dX2_sum_31 : decode cX2_sum 31 = .ok (.athrow, 1) := by decide +kernel
theorem dX2_sum_32 : decode cX2_sum 32 = .ok (.iload 4, 2) := by decide +kernel
theorem dX2_sum_34 : decode cX2_sum 34 = .ok (.iload_n 1, 1) := by decide +kernel
theorem dX2_sum_35 : decode cX2_sum 35 = .ok (.invokestatic 74, 3) := by decide +kernel
theorem dX2_sum_38 : decode cX2_sum 38 = .ok (.istore 5, 2) := by decide +kernel
theorem dX2_sum_40 : decode cX2_sum 40 = .ok (.lconst 0, 1) := by decide +kernel
theorem dX2_sum_41 : decode cX2_sum 41 = .ok (.lstore 6, 2) := by decide +kernel
theorem dX2_sum_43 : decode cX2_sum 43 = .ok (.iload_n 2, 1) := by decide +kernel
theorem dX2_sum_44 : decode cX2_sum 44 = .ok (.istore 8, 2) := by decide +kernel
theorem dX2_sum_46 : decode cX2_sum 46 = .ok (.iload 8, 2) := by decide +kernel
theorem dX2_sum_48 : decode cX2_sum 48 = .ok (.iload_n 3, 1) := by decide +kernel
theorem dX2_sum_49 : decode cX2_sum 49 = .ok (.if_icmp .ge 40, 3) := by decide +kernel
theorem dX2_sum_52 : decode cX2_sum 52 = .ok (.aload_n 0, 1) := by decide +kernel
theorem dX2_sum_53 : decode cX2_sum 53 = .ok (.getfield 10, 3) := by decide +kernel
theorem dX2_sum_56 : decode cX2_sum 56 = .ok (.iload 5, 2) := by decide +kernel
theorem dX2_sum_58 : decode cX2_sum 58 = .ok (.iload 8, 2) := by decide +kernel
theorem dX2_sum_60 : decode cX2_sum 60 = .ok (.invokevirtual 77, 3) := by decide +kernel
theorem dX2_sum_63 : decode cX2_sum 63 = .ok (.ifCond .eq 20, 3) := by decide +kernel
theorem dX2_sum_66 : decode cX2_sum 66 = .ok (.lload 6, 2) := by decide +kernel
theorem dX2_sum_68 : decode cX2_sum 68 = .ok (.aload_n 0, 1) := by decide +kernel
theorem dX2_sum_69 : decode cX2_sum 69 = .ok (.getfield 10, 3) := by decide +kernel
theorem dX2_sum_72 : decode cX2_sum 72 = .ok (.iload 5, 2) := by decide +kernel
theorem dX2_sum_74 : decode cX2_sum 74 = .ok (.iload 8, 2) := by decide +kernel
theorem dX2_sum_76 : decode cX2_sum 76 = .ok (.invokevirtual 84, 3) := by decide +kernel
theorem dX2_sum_79 : decode cX2_sum 79 = .ok (.i2l, 1) := by decide +kernel
theorem dX2_sum_80 : decode cX2_sum 80 = .ok (.ladd, 1) := by decide +kernel
theorem dX2_sum_81 : decode cX2_sum 81 = .ok (.lstore 6, 2) := by decide +kernel
theorem dX2_sum_83 : decode cX2_sum 83 = .ok (.iinc 8 1, 3) := by decide +kernel
theorem dX2_sum_86 : decode cX2_sum 86 = .ok (.goto (-40), 3) := by decide +kernel
theorem dX2_sum_89 : decode cX2_sum 89 = .ok (.lload 6, 2) := by decide +kernel
theorem dX2_sum_91 : decode cX2_sum 91 = .ok (.lreturn, 1) := by decide +kernel
theorem dX2_runs_0 : decode cX2_runs 0 = .ok (.iload_n 1, 1) := by decide +kernel
theorem dX2_runs_1 : decode cX2_runs 1 = .ok (.invokestatic 61, 3) := by decide +kernel
theorem dX2_runs_4 : decode cX2_runs 4 = .ok (.ifCond .eq 11, 3) := by decide +kernel
theorem dX2_runs_7 : decode cX2_runs 7 = .ok (.aload_n 0, 1) := by decide +kernel
theorem dX2_runs_8 : decode cX2_runs 8 = .ok (.iload_n 2, 1) := by decide +kernel
theorem dX2_runs_9 : decode cX2_runs 9 = .ok (.invokevirtual 68, 3) := by decide +kernel
theorem dX2_runs_12 : decode cX2_runs 12 = .ok (.ifCond .ne 11, 3) := by decide +kernel
theorem dX2_runs_15 : decode cX2_runs 15 = .ok (.new 71, 3) := by decide +kernel
theorem dX2_runs_18 : decode cX2_runs 18 = .ok (.dup, 1) := by decide +kernel
theorem dX2_runs_19 : decode cX2_runs 19 = .ok (.invokespecial 73, 3) := by decide +kernel
theorem dX2_runs_22 : decode cX2_runs 22 = .ok (.athrow, 1) := by decide +kernel
theorem dX2_runs_23 : decode cX2_runs 23 = .ok (.aload_n 0, 1) := by decide +kernel
theorem dX2_runs_24 : decode cX2_runs 24 = .ok (.getfield 10, 3) := by decide +kernel
theorem dX2_runs_27 : decode cX2_runs 27 = .ok (.iload_n 2, 1) := by decide +kernel
theorem dX2_runs_28 : decode cX2_runs 28 = .ok (.iload_n 1, 1) := by decide +kernel
theorem dX2_runs_29 : decode cX2_runs 29 = .ok (.invokestatic 74, 3) := by decide +kernel
theorem dX2_runs_32 : decode cX2_runs 32 = .ok (.invokevirtual 90, 3) := by decide +kernel
theorem dX2_runs_35 : decode cX2_runs 35 = .ok (.ireturn, 1) := by decide +kernel
theorem dX2_run_0 : decode cX2_run 0 = .ok (.iload_n 1, 1) := by decide +kernel
theorem dX2_run_1 : decode cX2_run 1 = .ok (.invokestatic 61, 3) := by decide +kernel
theorem dX2_run_4 : decode cX2_run 4 = .ok (.ifCond .eq 22, 3) := by decide +kernel
theorem dX2_run_7 : decode cX2_run 7 = .ok (.aload_n 0, 1) := by decide +kernel
theorem dX2_run_8 : decode cX2_run 8 = .ok (.iload_n 2, 1) := by decide +kernel
theorem dX2_run_9 : decode cX2_run 9 = .ok (.invokevirtual 68, 3) := by decide +kernel
theorem dX2_run_12 : decode cX2_run 12 = .ok (.ifCond .eq 14, 3) := by decide +kernel
theorem dX2_run_15 : decode cX2_run 15 = .ok (.iload 4, 2) := by decide +kernel
theorem dX2_run_17 : decode cX2_run 17 = .ok (.ifCond .lt 9, 3) := by decide +kernel
theorem dX2_run_20 : decode cX2_run 20 = .ok (.iload 4, 2) := by decide +kernel
theorem dX2_run_22 : decode cX2_run 22 = .ok (.iconst 2, 1) := by decide +kernel
theorem dX2_run_23 : decode cX2_run 23 = .ok (.if_icmp .le 11, 3) := by decide +kernel
theorem dX2_run_26 : decode cX2_run 26 = .ok (.new 71, 3) := by decide +kernel
theorem dX2_run_29 : decode cX2_run 29 = .ok (.dup, 1) := by decide +kernel
theorem dX2_run_30 : decode cX2_run 30 = .ok (.invokespecial 73, 3) := by decide +kernel
theorem dX2_run_33 : decode cX2_run 33 = .ok (.athrow, 1) := by decide +kernel
theorem dX2_run_34 : decode cX2_run 34 = .ok (.iload_n 2, 1) := by decide +kernel
theorem dX2_run_35 : decode cX2_run 35 = .ok (.iload_n 1, 1) := by decide +kernel
theorem dX2_run_36 : decode cX2_run 36 = .ok (.invokestatic 74, 3) := by decide +kernel
theorem dX2_run_39 : decode cX2_run 39 = .ok (.istore 5, 2) := by decide +kernel
theorem dX2_run_41 : decode cX2_run 41 = .ok (.aload_n 0, 1) := by decide +kernel
theorem dX2_run_42 : decode cX2_run 42 = .ok (.getfield 10, 3) := by decide +kernel
theorem dX2_run_45 : decode cX2_run 45 = .ok (.iload 5, 2) := by decide +kernel
theorem dX2_run_47 : decode cX2_run 47 = .ok (.iload_n 3, 1) := by decide +kernel
theorem dX2_run_48 : decode cX2_run 48 = .ok (.invokevirtual 94, 3) := by decide +kernel
theorem dX2_run_51 : decode cX2_run 51 = .ok (.istore 6, 2) := by decide +kernel
theorem dX2_run_53 : decode cX2_run 53 = .ok (.iload 6, 2) := by decide +kernel
theorem dX2_run_55 : decode cX2_run 55 = .ok (.iconst (-1), 1) := by decide +kernel
theorem dX2_run_56 : decode cX2_run 56 = .ok (.if_icmp .ne 11, 3) := by decide +kernel
theorem dX2_run_59 : decode cX2_run 59 = .ok (.new 97, 3) := by decide +kernel
theorem dX2_run_62 : decode cX2_run 62 = .ok (.dup, 1) := by decide +kernel
theorem dX2_run_63 : decode cX2_run 63 = .ok (.invokespecial 99, 3) := by decide +kernel
theorem dX2_run_66 : decode cX2_run 66 = .ok (.athrow, 1) := by decide +kernel
theorem dX2_run_67 : decode cX2_run 67 = .ok (.iload 4, 2) := by decide +kernel
theorem dX2_run_69 : decode cX2_run 69 = .ok (.ifCond .ne 6, 3) := by decide +kernel
theorem dX2_run_72 : decode cX2_run 72 = .ok (.iload 6, 2) := by decide +kernel
theorem dX2_run_74 : decode cX2_run 74 = .ok (.ireturn, 1) := by decide +kernel
theorem dX2_run_75 : decode cX2_run 75 = .ok (.iload 4, 2) := by decide +kernel
theorem dX2_run_77 : decode cX2_run 77 = .ok (.iconst 1, 1) := by decide +kernel
theorem dX2_run_78 : decode cX2_run 78 = .ok (.if_icmp .ne 17, 3) := by decide +kernel
theorem dX2_run_81 : decode cX2_run 81 = .ok (.aload_n 0, 1) := by decide +kernel
theorem dX2_run_82 : decode cX2_run 82 = .ok (.getfield 10, 3) := by decide +kernel
theorem dX2_run_85 : decode cX2_run 85 = .ok (.iload 5, 2) := by decide +kernel
theorem dX2_run_87 : decode cX2_run 87 = .ok (.iload 6, 2) := by decide +kernel
theorem dX2_run_89 : decode cX2_run 89 = .ok (.invokevirtual 100, 3) := by decide +kernel
theorem dX2_run_92 : decode cX2_run 92 = .ok (.goto 14, 3) := by decide +kernel
theorem dX2_run_95 : decode cX2_run 95 = .ok (.aload_n 0, 1) := by decide +kernel
theorem dX2_run_96 : decode cX2_run 96 = .ok (.getfield 10, 3) := by decide +kernel
theorem dX2_run_99 : decode cX2_run 99 = .ok (.iload 5, 2) := by decide +kernel
theorem dX2_run_101 : decode cX2_run 101 = .ok (.iload 6, 2) := by decide +kernel
theorem dX2_run_103 : decode cX2_run 103 = .ok (.invokevirtual 84, 3) := by decide +kernel
theorem dX2_run_106 : decode cX2_run 106 = .ok (.ireturn, 1) := by decide +kernel
theorem dX2_rows_0 : decode cX2_rows 0 = .ok (.aload_n 0, 1) := by decide +kernel
theorem dX2_rows_1 : decode cX2_rows 1 = .ok (.getfield 10, 3) := by decide +kernel
theorem dX2_rows_4 : decode cX2_rows 4 = .ok (.invokevirtual 103, 3) := by decide +kernel
theorem dX2_rows_7 : decode cX2_rows 7 = .ok (.ireturn, 1) := by decide +kernel
theorem dX2_row_0 : decode cX2_row 0 = .ok (.iload_n 2, 1) := by decide +kernel
theorem dX2_row_1 : decode cX2_row 1 = .ok (.ifCond .lt 8, 3) := by decide +kernel
theorem dX2_row_4 : decode cX2_row 4 = .ok (.iload_n 2, 1) := by decide +kernel
theorem dX2_row_5 : decode cX2_row 5 = .ok (.iconst 5, 1) := by decide +kernel
theorem dX2_row_6 : decode cX2_row 6 = .ok (.if_icmp .le 11, 3) := by decide +kernel
theorem dX2_row_9 : decode cX2_row 9 = .ok (.new 71, 3) := by decide +kernel
theorem dX2_row_12 : decode cX2_row 12 = .ok (.dup, 1) := by decide +kernel
theorem dX2_row_13 : decode cX2_row 13 = .ok (.invokespecial 73, 3) := by decide +kernel
theorem dX2_row_16 : decode cX2_row 16 = .ok (.athrow, 1) := by decide +kernel
theorem dX2_row_17 : decode cX2_row 17 = .ok (.iload_n 1, 1) := by decide +kernel
theorem dX2_row_18 : decode cX2_row 18 = .ok (.ifCond .lt 14, 3) := by decide +kernel
theorem dX2_row_21 : decode cX2_row 21 = .ok (.iload_n 1, 1) := by decide +kernel
theorem dX2_row_22 : decode cX2_row 22 = .ok (.aload_n 0, 1) := by decide +kernel
theorem dX2_row_23 : decode cX2_row 23 = .ok (.getfield 10, 3) := by decide +kernel
theorem dX2_row_26 : decode cX2_row 26 = .ok (.invokevirtual 103, 3) := by decide +kernel
theorem dX2_row_29 : decode cX2_row 29 = .ok (.if_icmp .lt 11, 3) := by decide +kernel
theorem dX2_row_32 : decode cX2_row 32 = .ok (.new 97, 3) := by decide +kernel
theorem dX2_row_35 : decode cX2_row 35 = .ok (.dup, 1) := by decide +kernel
theorem dX2_row_36 : decode cX2_row 36 = .ok (.invokespecial 99, 3) := by decide +kernel
theorem dX2_row_39 : decode cX2_row 39 = .ok (.athrow, 1) := by decide +kernel
theorem dX2_row_40 : decode cX2_row 40 = .ok (.aload_n 0, 1) := by decide +kernel
theorem dX2_row_41 : decode cX2_row 41 = .ok (.getfield 10, 3) := by decide +kernel
theorem dX2_row_44 : decode cX2_row 44 = .ok (.iload_n 1, 1) := by decide +kernel
theorem dX2_row_45 : decode cX2_row 45 = .ok (.iload_n 2, 1) := by decide +kernel
theorem dX2_row_46 : decode cX2_row 46 = .ok (.invokevirtual 107, 3) := by decide +kernel
theorem dX2_row_49 : decode cX2_row 49 = .ok (.ireturn, 1) := by decide +kernel
theorem dX2_changes_0 : decode cX2_changes 0 = .ok (.iload_n 1, 1) := by decide +kernel
theorem dX2_changes_1 : decode cX2_changes 1 = .ok (.invokestatic 61, 3) := by decide +kernel
theorem dX2_changes_4 : decode cX2_changes 4 = .ok (.ifCond .eq 10, 3) := by decide +kernel
theorem dX2_changes_7 : decode cX2_changes 7 = .ok (.iload_n 2, 1) := by decide +kernel
theorem dX2_changes_8 : decode cX2_changes 8 = .ok (.invokestatic 65, 3) := by decide +kernel
theorem dX2_changes_11 : decode cX2_changes 11 = .ok (.ifCond .ne 11, 3) := by decide +kernel
theorem dX2_changes_14 : decode cX2_changes 14 = .ok (.new 71, 3) := by decide +kernel
theorem dX2_changes_17 : decode cX2_changes 17 = .ok (.dup, 1) := by decide +kernel
theorem dX2_changes_18 : decode cX2_changes 18 = .ok (.invokespecial 73, 3) := by decide +kernel
theorem dX2_changes_21 : decode cX2_changes 21 = .ok (.athrow, 1) := by decide +kernel
theorem dX2_changes_22 : decode cX2_changes 22 = .ok (.iconst 0, 1) := by decide +kernel
theorem dX2_changes_23 : decode cX2_changes 23 = .ok (.istore_n 3, 1) := by decide +kernel
theorem dX2_changes_24 : decode cX2_changes 24 = .ok (.iconst 1, 1) := by decide +kernel
theorem dX2_changes_25 : decode cX2_changes 25 = .ok (.istore 4, 2) := by decide +kernel
theorem dX2_changes_27 : decode cX2_changes 27 = .ok (.iload 4, 2) := by decide +kernel
theorem dX2_changes_29 : decode cX2_changes 29 = .ok (.aload_n 0, 1) := by decide +kernel
theorem dX2_changes_30 : decode cX2_changes 30 = .ok (.getfield 10, 3) := by decide +kernel
theorem dX2_changes_33 : decode cX2_changes 33 = .ok (.getfield 27, 3) := by decide +kernel
theorem dX2_changes_36 : decode cX2_changes 36 = .ok (.if_icmp .gt 37, 3) := by decide +kernel
theorem dX2_changes_39 : decode cX2_changes 39 = .ok (.aload_n 0, 1) := by decide +kernel
theorem dX2_changes_40 : decode cX2_changes 40 = .ok (.getfield 10, 3) := by decide +kernel
theorem dX2_changes_43 : decode cX2_changes 43 = .ok (.iload 4, 2) := by decide +kernel
theorem dX2_changes_45 : decode cX2_changes 45 = .ok (.iconst 1, 1) := by decide +kernel
theorem dX2_changes_46 : decode cX2_changes 46 = .ok (.isub, 1) := by decide +kernel
theorem dX2_changes_47 : decode cX2_changes 47 = .ok (.iload_n 1, 1) := by decide +kernel
theorem dX2_changes_48 : decode cX2_changes 48 = .ok (.invokestatic 74, 3) := by decide +kernel
theorem dX2_changes_51 : decode cX2_changes 51 = .ok (.iload 4, 2) := by decide +kernel
theorem dX2_changes_53 : decode cX2_changes 53 = .ok (.iload_n 1, 1) := by decide +kernel
theorem dX2_changes_54 : decode cX2_changes 54 = .ok (.invokestatic 74, 3) := by decide +kernel
theorem dX2_changes_57 : decode cX2_changes 57 = .ok (.iload_n 2, 1) := by decide +kernel
theorem dX2_changes_58 : decode cX2_changes 58 = .ok (.invokevirtual 110, 3) := by decide +kernel
theorem dX2_changes_61 : decode cX2_changes 61 = .ok (.ifCond .eq 6, 3) := by decide +kernel
theorem dX2_changes_64 : decode cX2_changes 64 = .ok (.iinc 3 1, 3) := by decide +kernel
theorem dX2_changes_67 : decode cX2_changes 67 = .ok (.iinc 4 1, 3) := by decide +kernel
theorem dX2_changes_70 : decode cX2_changes 70 = .ok (.goto (-43), 3) := by decide +kernel
theorem dX2_changes_73 : decode cX2_changes 73 = .ok (.iload_n 3, 1) := by decide +kernel
theorem dX2_changes_74 : decode cX2_changes 74 = .ok (.ireturn, 1) := by decide +kernel
theorem dX2_relation_0 : decode cX2_relation 0 = .ok (.iload_n 1, 1) := by decide +kernel
theorem dX2_relation_1 : decode cX2_relation 1 = .ok (.iload_n 2, 1) := by decide +kernel
theorem dX2_relation_2 : decode cX2_relation 2 = .ok (.invokestatic 87, 3) := by decide +kernel
theorem dX2_relation_5 : decode cX2_relation 5 = .ok (.ifCond .eq 12, 3) := by decide +kernel
theorem dX2_relation_8 : decode cX2_relation 8 = .ok (.iload_n 3, 1) := by decide +kernel
theorem dX2_relation_9 : decode cX2_relation 9 = .ok (.iload 4, 2) := by decide +kernel
theorem dX2_relation_11 : decode cX2_relation 11 = .ok (.invokestatic 87, 3) := by decide +kernel
theorem dX2_relation_14 : decode cX2_relation 14 = .ok (.ifCond .ne 11, 3) := by decide +kernel
theorem dX2_relation_17 : decode cX2_relation 17 = .ok (.new 71, 3) := by decide +kernel
theorem dX2_relation_20 : decode cX2_relation 20 = .ok (.dup, 1) := by decide +kernel
theorem dX2_relation_21 : decode cX2_relation 21 = .ok (.invokespecial 73, 3) := by decide +kernel
theorem dX2_relation_24 : decode cX2_relation 24 = .ok (.athrow, 1) := by decide +kernel
theorem dX2_relation_25 : decode cX2_relation 25 = .ok (.iload_n 1, 1) := by decide +kernel
theorem dX2_relation_26 : decode cX2_relation 26 = .ok (.iload_n 2, 1) := by decide +kernel
theorem dX2_relation_27 : decode cX2_relation 27 = .ok (.iload_n 3, 1) := by decide +kernel
theorem dX2_relation_28 : decode cX2_relation 28 = .ok (.iload 4, 2) := by decide +kernel
theorem dX2_relation_30 : decode cX2_relation 30 = .ok (.invokestatic 114, 3) := by decide +kernel
theorem dX2_relation_33 : decode cX2_relation 33 = .ok (.ireturn, 1) := by decide +kernel
theorem dX2_join_0 : decode cX2_join 0 = .ok (.iload_n 1, 1) := by decide +kernel
theorem dX2_join_1 : decode cX2_join 1 = .ok (.invokestatic 61, 3) := by decide +kernel
theorem dX2_join_4 : decode cX2_join 4 = .ok (.ifCond .eq 30, 3) := by decide +kernel
theorem dX2_join_7 : decode cX2_join 7 = .ok (.iload_n 2, 1) := by decide +kernel
theorem dX2_join_8 : decode cX2_join 8 = .ok (.invokestatic 61, 3) := by decide +kernel
theorem dX2_join_11 : decode cX2_join 11 = .ok (.ifCond .eq 23, 3) := by decide +kernel
theorem dX2_join_14 : decode cX2_join 14 = .ok (.aload_n 0, 1) := by decide +kernel
theorem dX2_join_15 : decode cX2_join 15 = .ok (.iload_n 3, 1) := by decide +kernel
theorem dX2_join_16 : decode cX2_join 16 = .ok (.invokevirtual 68, 3) := by decide +kernel
theorem dX2_join_19 : decode cX2_join 19 = .ok (.ifCond .eq 15, 3) := by decide +kernel
theorem dX2_join_22 : decode cX2_join 22 = .ok (.iload 4, 2) := by decide +kernel
theorem dX2_join_24 : decode cX2_join 24 = .ok (.ifCond .lt 10, 3) := by decide +kernel
theorem dX2_join_27 : decode cX2_join 27 = .ok (.iload 4, 2) := by decide +kernel
theorem dX2_join_29 : decode cX2_join 29 = .ok (.bipush 12, 2) := by decide +kernel
theorem dX2_join_31 : decode cX2_join 31 = .ok (.if_icmp .le 11, 3) := by decide +kernel
theorem dX2_join_34 : decode cX2_join 34 = .ok (.new 71, 3) := by decide +kernel
theorem dX2_join_37 : decode cX2_join 37 = .ok (.dup, 1) := by decide +kernel
theorem dX2_join_38 : decode cX2_join 38 = .ok (.invokespecial 73, 3) := by decide +kernel
theorem dX2_join_41 : decode cX2_join 41 = .ok (.athrow, 1) := by decide +kernel
theorem dX2_join_42 : decode cX2_join 42 = .ok (.iload_n 3, 1) := by decide +kernel
theorem dX2_join_43 : decode cX2_join 43 = .ok (.iload_n 1, 1) := by decide +kernel
theorem dX2_join_44 : decode cX2_join 44 = .ok (.invokestatic 74, 3) := by decide +kernel
theorem dX2_join_47 : decode cX2_join 47 = .ok (.istore 5, 2) := by decide +kernel
theorem dX2_join_49 : decode cX2_join 49 = .ok (.iconst 0, 1) := by decide +kernel
theorem dX2_join_50 : decode cX2_join 50 = .ok (.istore 6, 2) := by decide +kernel
theorem dX2_join_52 : decode cX2_join 52 = .ok (.iconst 0, 1) := by decide +kernel
theorem dX2_join_53 : decode cX2_join 53 = .ok (.istore 7, 2) := by decide +kernel
theorem dX2_join_55 : decode cX2_join 55 = .ok (.iload 7, 2) := by decide +kernel
theorem dX2_join_57 : decode cX2_join 57 = .ok (.bipush 32, 2) := by decide +kernel
theorem dX2_join_59 : decode cX2_join 59 = .ok (.if_icmp .ge 55, 3) := by decide +kernel
theorem dX2_join_62 : decode cX2_join 62 = .ok (.aload_n 0, 1) := by decide +kernel
theorem dX2_join_63 : decode cX2_join 63 = .ok (.getfield 10, 3) := by decide +kernel
theorem dX2_join_66 : decode cX2_join 66 = .ok (.iload 5, 2) := by decide +kernel
theorem dX2_join_68 : decode cX2_join 68 = .ok (.iload 7, 2) := by decide +kernel
theorem dX2_join_70 : decode cX2_join 70 = .ok (.invokevirtual 118, 3) := by decide +kernel
theorem dX2_join_73 : decode cX2_join 73 = .ok (.ifCond .eq 35, 3) := by decide +kernel
theorem dX2_join_76 : decode cX2_join 76 = .ok (.iload 6, 2) := by decide +kernel
theorem dX2_join_78 : decode cX2_join 78 = .ok (.aload_n 0, 1) := by decide +kernel
theorem dX2_join_79 : decode cX2_join 79 = .ok (.getfield 10, 3) := by decide +kernel
theorem dX2_join_82 : decode cX2_join 82 = .ok (.iload 7, 2) := by decide +kernel
theorem dX2_join_84 : decode cX2_join 84 = .ok (.aload_n 0, 1) := by decide +kernel
theorem dX2_join_85 : decode cX2_join 85 = .ok (.getfield 10, 3) := by decide +kernel
theorem dX2_join_88 : decode cX2_join 88 = .ok (.iload 5, 2) := by decide +kernel
theorem dX2_join_90 : decode cX2_join 90 = .ok (.iload 7, 2) := by decide +kernel
theorem dX2_join_92 : decode cX2_join 92 = .ok (.invokevirtual 100, 3) := by decide +kernel
theorem dX2_join_95 : decode cX2_join 95 = .ok (.iload_n 3, 1) := by decide +kernel
theorem dX2_join_96 : decode cX2_join 96 = .ok (.iload_n 2, 1) := by decide +kernel
theorem dX2_join_97 : decode cX2_join 97 = .ok (.invokestatic 74, 3) := by decide +kernel
theorem dX2_join_100 : decode cX2_join 100 = .ok (.iload 4, 2) := by decide +kernel
theorem dX2_join_102 : decode cX2_join 102 = .ok (.invokevirtual 121, 3) := by decide +kernel
theorem dX2_join_105 : decode cX2_join 105 = .ok (.iadd, 1) := by decide +kernel
theorem dX2_join_106 : decode cX2_join 106 = .ok (.istore 6, 2) := by decide +kernel
theorem dX2_join_108 : decode cX2_join 108 = .ok (.iinc 7 1, 3) := by decide +kernel
theorem dX2_join_111 : decode cX2_join 111 = .ok (.goto (-56), 3) := by decide +kernel
theorem dX2_join_114 : decode cX2_join 114 = .ok (.iload 6, 2) := by decide +kernel
theorem dX2_join_116 : decode cX2_join 116 = .ok (.ireturn, 1) := by decide +kernel
theorem dX2_refuse_0 : decode cX2_refuse 0 = .ok (.iload_n 0, 1) := by decide +kernel
theorem dX2_refuse_1 : decode cX2_refuse 1 = .ok (.iconst (-1), 1) := by decide +kernel
theorem dX2_refuse_2 : decode cX2_refuse 2 = .ok (.if_icmp .ne 11, 3) := by decide +kernel
theorem dX2_refuse_5 : decode cX2_refuse 5 = .ok (.new 71, 3) := by decide +kernel
theorem dX2_refuse_8 : decode cX2_refuse 8 = .ok (.dup, 1) := by decide +kernel
theorem dX2_refuse_9 : decode cX2_refuse 9 = .ok (.invokespecial 73, 3) := by decide +kernel
theorem dX2_refuse_12 : decode cX2_refuse 12 = .ok (.athrow, 1) := by decide +kernel
theorem dX2_refuse_13 : decode cX2_refuse 13 = .ok (.iload_n 0, 1) := by decide +kernel
theorem dX2_refuse_14 : decode cX2_refuse 14 = .ok (.bipush (-2), 2) := by decide +kernel
theorem dX2_refuse_16 : decode cX2_refuse 16 = .ok (.if_icmp .ne 11, 3) := by decide +kernel
theorem dX2_refuse_19 : decode cX2_refuse 19 = .ok (.new 81, 3) := by decide +kernel
theorem dX2_refuse_22 : decode cX2_refuse 22 = .ok (.dup, 1) := by decide +kernel
theorem dX2_refuse_23 : decode cX2_refuse 23 = .ok (.invokespecial 83, 3) := by decide +kernel
theorem dX2_refuse_26 : decode cX2_refuse 26 = .ok (.athrow, 1) := by decide +kernel
theorem dX2_refuse_27 : decode cX2_refuse 27 = .ok (.new 30, 3) := by decide +kernel
theorem dX2_refuse_30 : decode cX2_refuse 30 = .ok (.dup, 1) := by decide +kernel
theorem dX2_refuse_31 : decode cX2_refuse 31 = .ok (.invokespecial 32, 3) := by decide +kernel
theorem dX2_refuse_34 : decode cX2_refuse 34 = .ok (.athrow, 1) := by decide +kernel
theorem dX2_isKey_0 : decode cX2_isKey 0 = .ok (.iload_n 0, 1) := by decide +kernel
theorem dX2_isKey_1 : decode cX2_isKey 1 = .ok (.ifCond .lt 12, 3) := by decide +kernel
theorem dX2_isKey_4 : decode cX2_isKey 4 = .ok (.iload_n 0, 1) := by decide +kernel
theorem dX2_isKey_5 : decode cX2_isKey 5 = .ok (.iconst 4, 1) := by decide +kernel
theorem dX2_isKey_6 : decode cX2_isKey 6 = .ok (.if_icmp .ge 7, 3) := by decide +kernel
theorem dX2_isKey_9 : decode cX2_isKey 9 = .ok (.iconst 1, 1) := by decide +kernel
theorem dX2_isKey_10 : decode cX2_isKey 10 = .ok (.goto 4, 3) := by decide +kernel
theorem dX2_isKey_13 : decode cX2_isKey 13 = .ok (.iconst 0, 1) := by decide +kernel
theorem dX2_isKey_14 : decode cX2_isKey 14 = .ok (.ireturn, 1) := by decide +kernel
theorem dX2_isDay_0 : decode cX2_isDay 0 = .ok (.iload_n 0, 1) := by decide +kernel
theorem dX2_isDay_1 : decode cX2_isDay 1 = .ok (.ifCond .lt 13, 3) := by decide +kernel
theorem dX2_isDay_4 : decode cX2_isDay 4 = .ok (.iload_n 0, 1) := by decide +kernel
theorem dX2_isDay_5 : decode cX2_isDay 5 = .ok (.bipush 32, 2) := by decide +kernel
theorem dX2_isDay_7 : decode cX2_isDay 7 = .ok (.if_icmp .ge 7, 3) := by decide +kernel
theorem dX2_isDay_10 : decode cX2_isDay 10 = .ok (.iconst 1, 1) := by decide +kernel
theorem dX2_isDay_11 : decode cX2_isDay 11 = .ok (.goto 4, 3) := by decide +kernel
theorem dX2_isDay_14 : decode cX2_isDay 14 = .ok (.iconst 0, 1) := by decide +kernel
theorem dX2_isDay_15 : decode cX2_isDay 15 = .ok (.ireturn, 1) := by decide +kernel
theorem dX2_isPeriod_0 : decode cX2_isPeriod 0 = .ok (.iload_n 0, 1) := by decide +kernel
theorem dX2_isPeriod_1 : decode cX2_isPeriod 1 = .ok (.ifCond .lt 18, 3) := by decide +kernel
theorem dX2_isPeriod_4 : decode cX2_isPeriod 4 = .ok (.iload_n 0, 1) := by decide +kernel
theorem dX2_isPeriod_5 : decode cX2_isPeriod 5 = .ok (.iload_n 1, 1) := by decide +kernel
theorem dX2_isPeriod_6 : decode cX2_isPeriod 6 = .ok (.if_icmp .ge 13, 3) := by decide +kernel
theorem dX2_isPeriod_9 : decode cX2_isPeriod 9 = .ok (.iload_n 1, 1) := by decide +kernel
theorem dX2_isPeriod_10 : decode cX2_isPeriod 10 = .ok (.bipush 32, 2) := by decide +kernel
theorem dX2_isPeriod_12 : decode cX2_isPeriod 12 = .ok (.if_icmp .gt 7, 3) := by decide +kernel
theorem dX2_isPeriod_15 : decode cX2_isPeriod 15 = .ok (.iconst 1, 1) := by decide +kernel
theorem dX2_isPeriod_16 : decode cX2_isPeriod 16 = .ok (.goto 4, 3) := by decide +kernel
theorem dX2_isPeriod_19 : decode cX2_isPeriod 19 = .ok (.iconst 0, 1) := by decide +kernel
theorem dX2_isPeriod_20 : decode cX2_isPeriod 20 = .ok (.ireturn, 1) := by decide +kernel
theorem dX2_isTime_0 : decode cX2_isTime 0 = .ok (.iload_n 1, 1) := by decide +kernel
theorem dX2_isTime_1 : decode cX2_isTime 1 = .ok (.ifCond .lt 18, 3) := by decide +kernel
theorem dX2_isTime_4 : decode cX2_isTime 4 = .ok (.iload_n 1, 1) := by decide +kernel
theorem dX2_isTime_5 : decode cX2_isTime 5 = .ok (.aload_n 0, 1) := by decide +kernel
theorem dX2_isTime_6 : decode cX2_isTime 6 = .ok (.getfield 10, 3) := by decide +kernel
theorem dX2_isTime_9 : decode cX2_isTime 9 = .ok (.getfield 27, 3) := by decide +kernel
theorem dX2_isTime_12 : decode cX2_isTime 12 = .ok (.if_icmp .gt 7, 3) := by decide +kernel
theorem dX2_isTime_15 : decode cX2_isTime 15 = .ok (.iconst 1, 1) := by decide +kernel
theorem dX2_isTime_16 : decode cX2_isTime 16 = .ok (.goto 4, 3) := by decide +kernel
theorem dX2_isTime_19 : decode cX2_isTime 19 = .ok (.iconst 0, 1) := by decide +kernel
theorem dX2_isTime_20 : decode cX2_isTime 20 = .ok (.ireturn, 1) := by decide +kernel
theorem dX2_slotOf_0 : decode cX2_slotOf 0 = .ok (.iload_n 0, 1) := by decide +kernel
theorem dX2_slotOf_1 : decode cX2_slotOf 1 = .ok (.iconst 4, 1) := by decide +kernel
theorem dX2_slotOf_2 : decode cX2_slotOf 2 = .ok (.imul, 1) := by decide +kernel
theorem dX2_slotOf_3 : decode cX2_slotOf 3 = .ok (.iload_n 1, 1) := by decide +kernel
theorem dX2_slotOf_4 : decode cX2_slotOf 4 = .ok (.iadd, 1) := by decide +kernel
theorem dX2_slotOf_5 : decode cX2_slotOf 5 = .ok (.ireturn, 1) := by decide +kernel
theorem dX2_relationOf_0 : decode cX2_relationOf 0 = .ok (.iload_n 0, 1) := by decide +kernel
theorem dX2_relationOf_1 : decode cX2_relationOf 1 = .ok (.iload_n 1, 1) := by decide +kernel
theorem dX2_relationOf_2 : decode cX2_relationOf 2 = .ok (.iload_n 2, 1) := by decide +kernel
theorem dX2_relationOf_3 : decode cX2_relationOf 3 = .ok (.iload_n 3, 1) := by decide +kernel
theorem dX2_relationOf_4 : decode cX2_relationOf 4 = .ok (.invokestatic 124, 3) := by decide +kernel
theorem dX2_relationOf_7 : decode cX2_relationOf 7 = .ok (.istore 4, 2) := by decide +kernel
theorem dX2_relationOf_9 : decode cX2_relationOf 9 = .ok (.iload 4, 2) := by decide +kernel
theorem dX2_relationOf_11 : decode cX2_relationOf 11 = .ok (.iconst (-1), 1) := by decide +kernel
theorem dX2_relationOf_12 : decode cX2_relationOf 12 = .ok (.if_icmp .eq 8, 3) := by decide +kernel
theorem dX2_relationOf_15 : decode cX2_relationOf 15 = .ok (.iload 4, 2) := by decide +kernel
theorem dX2_relationOf_17 : decode cX2_relationOf 17 = .ok (.goto 13, 3) := by decide +kernel
theorem dX2_relationOf_20 : decode cX2_relationOf 20 = .ok (.bipush 12, 2) := by decide +kernel
theorem dX2_relationOf_22 : decode cX2_relationOf 22 = .ok (.iload_n 2, 1) := by decide +kernel
theorem dX2_relationOf_23 : decode cX2_relationOf 23 = .ok (.iload_n 3, 1) := by decide +kernel
theorem dX2_relationOf_24 : decode cX2_relationOf 24 = .ok (.iload_n 0, 1) := by decide +kernel
theorem dX2_relationOf_25 : decode cX2_relationOf 25 = .ok (.iload_n 1, 1) := by decide +kernel
theorem dX2_relationOf_26 : decode cX2_relationOf 26 = .ok (.invokestatic 124, 3) := by decide +kernel
theorem dX2_relationOf_29 : decode cX2_relationOf 29 = .ok (.isub, 1) := by decide +kernel
theorem dX2_relationOf_30 : decode cX2_relationOf 30 = .ok (.ireturn, 1) := by decide +kernel
theorem dX2_forwardRelation_0 : decode cX2_forwardRelation 0 = .ok (.iload_n 1, 1) := by decide +kernel
theorem dX2_forwardRelation_1 : decode cX2_forwardRelation 1 = .ok (.iload_n 2, 1) := by decide +kernel
theorem dX2_forwardRelation_2 : decode cX2_forwardRelation 2 = .ok (.if_icmp .gt 14, 3) := by decide +kernel
theorem dX2_forwardRelation_5 : decode cX2_forwardRelation 5 = .ok (.iload_n 1, 1) := by decide +kernel
theorem dX2_forwardRelation_6 : decode cX2_forwardRelation 6 = .ok (.iload_n 2, 1) := by decide +kernel
theorem dX2_forwardRelation_7 : decode cX2_forwardRelation 7 = .ok (.if_icmp .ge 7, 3) := by decide +kernel
theorem dX2_forwardRelation_10 : decode cX2_forwardRelation 10 = .ok (.iconst 0, 1) := by decide +kernel
theorem dX2_forwardRelation_11 : decode cX2_forwardRelation 11 = .ok (.goto 4, 3) := by decide +kernel
theorem dX2_forwardRelation_14 : decode cX2_forwardRelation 14 = .ok (.iconst 1, 1) := by decide +kernel
theorem dX2_forwardRelation_15 : decode cX2_forwardRelation 15 = .ok (.ireturn, 1) := by decide +kernel
theorem dX2_forwardRelation_16 : decode cX2_forwardRelation 16 = .ok (.iload_n 0, 1) := by decide +kernel
theorem dX2_forwardRelation_17 : decode cX2_forwardRelation 17 = .ok (.iload_n 2, 1) := by decide +kernel
theorem dX2_forwardRelation_18 : decode cX2_forwardRelation 18 = .ok (.if_icmp .ge 14, 3) := by decide +kernel
theorem dX2_forwardRelation_21 : decode cX2_forwardRelation 21 = .ok (.iload_n 1, 1) := by decide +kernel
theorem dX2_forwardRelation_22 : decode cX2_forwardRelation 22 = .ok (.iload_n 3, 1) := by decide +kernel
theorem dX2_forwardRelation_23 : decode cX2_forwardRelation 23 = .ok (.if_icmp .ge 7, 3) := by decide +kernel
theorem dX2_forwardRelation_26 : decode cX2_forwardRelation 26 = .ok (.iconst 2, 1) := by decide +kernel
theorem dX2_forwardRelation_27 : decode cX2_forwardRelation 27 = .ok (.goto 4, 3) := by decide +kernel
theorem dX2_forwardRelation_30 : decode cX2_forwardRelation 30 = .ok (.iconst (-1), 1) := by decide +kernel
theorem dX2_forwardRelation_31 : decode cX2_forwardRelation 31 = .ok (.ireturn, 1) := by decide +kernel
theorem dX2_forwardRelation_32 : decode cX2_forwardRelation 32 = .ok (.iload_n 1, 1) := by decide +kernel
theorem dX2_forwardRelation_33 : decode cX2_forwardRelation 33 = .ok (.iload_n 3, 1) := by decide +kernel
theorem dX2_forwardRelation_34 : decode cX2_forwardRelation 34 = .ok (.if_icmp .ge 14, 3) := by decide +kernel
theorem dX2_forwardRelation_37 : decode cX2_forwardRelation 37 = .ok (.iload_n 0, 1) := by decide +kernel
theorem dX2_forwardRelation_38 : decode cX2_forwardRelation 38 = .ok (.iload_n 2, 1) := by decide +kernel
theorem dX2_forwardRelation_39 : decode cX2_forwardRelation 39 = .ok (.if_icmp .ne 7, 3) := by decide +kernel
theorem dX2_forwardRelation_42 : decode cX2_forwardRelation 42 = .ok (.iconst 3, 1) := by decide +kernel
theorem dX2_forwardRelation_43 : decode cX2_forwardRelation 43 = .ok (.goto 4, 3) := by decide +kernel
theorem dX2_forwardRelation_46 : decode cX2_forwardRelation 46 = .ok (.iconst 4, 1) := by decide +kernel
theorem dX2_forwardRelation_47 : decode cX2_forwardRelation 47 = .ok (.ireturn, 1) := by decide +kernel
theorem dX2_forwardRelation_48 : decode cX2_forwardRelation 48 = .ok (.iload_n 1, 1) := by decide +kernel
theorem dX2_forwardRelation_49 : decode cX2_forwardRelation 49 = .ok (.iload_n 3, 1) := by decide +kernel
theorem dX2_forwardRelation_50 : decode cX2_forwardRelation 50 = .ok (.if_icmp .ne 15, 3) := by decide +kernel
theorem dX2_forwardRelation_53 : decode cX2_forwardRelation 53 = .ok (.iload_n 0, 1) := by decide +kernel
theorem dX2_forwardRelation_54 : decode cX2_forwardRelation 54 = .ok (.iload_n 2, 1) := by decide +kernel
theorem dX2_forwardRelation_55 : decode cX2_forwardRelation 55 = .ok (.if_icmp .le 7, 3) := by decide +kernel
theorem dX2_forwardRelation_58 : decode cX2_forwardRelation 58 = .ok (.iconst 5, 1) := by decide +kernel
theorem dX2_forwardRelation_59 : decode cX2_forwardRelation 59 = .ok (.goto 5, 3) := by decide +kernel
theorem dX2_forwardRelation_62 : decode cX2_forwardRelation 62 = .ok (.bipush 6, 2) := by decide +kernel
theorem dX2_forwardRelation_64 : decode cX2_forwardRelation 64 = .ok (.ireturn, 1) := by decide +kernel
theorem dX2_forwardRelation_65 : decode cX2_forwardRelation 65 = .ok (.iconst (-1), 1) := by decide +kernel
theorem dX2_forwardRelation_66 : decode cX2_forwardRelation 66 = .ok (.ireturn, 1) := by decide +kernel
