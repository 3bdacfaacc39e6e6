theorem dX3_commit_50 : decode cX3_commit 50 = .ok (.iadd, 1) := by decide +kernel
theorem dX3_commit_51 : decode cX3_commit 51 = .ok (.iaload, 1) := by decide +kernel
theorem dX3_commit_52 : decode cX3_commit 52 = .ok (.aload_n 0, 1) := by decide +kernel
theorem dX3_commit_53 : decode cX3_commit 53 = .ok (.getfield 23, 3) := by decide +kernel
theorem dX3_commit_56 : decode cX3_commit 56 = .ok (.iconst 5, 1) := by decide +kernel
theorem dX3_commit_57 : decode cX3_commit 57 = .ok (.iload_n 3, 1) := by decide +kernel
theorem dX3_commit_58 : decode cX3_commit 58 = .ok (.imul, 1) := by decide +kernel
theorem dX3_commit_59 : decode cX3_commit 59 = .ok (.iconst 2, 1) := by decide +kernel
theorem dX3_commit_60 : decode cX3_commit 60 = .ok (.iadd, 1) := by decide +kernel
theorem dX3_commit_61 : decode cX3_commit 61 = .ok (.iaload, 1) := by decide +kernel
theorem dX3_commit_62 : decode cX3_commit 62 = .ok (.aload_n 0, 1) := by decide +kernel
theorem dX3_commit_63 : decode cX3_commit 63 = .ok (.getfield 23, 3) := by decide +kernel
theorem dX3_commit_66 : decode cX3_commit 66 = .ok (.iconst 5, 1) := by decide +kernel
theorem dX3_commit_67 : decode cX3_commit 67 = .ok (.iload_n 3, 1) := by decide +kernel
theorem dX3_commit_68 : decode cX3_commit 68 = .ok (.imul, 1) := by decide +kernel
theorem dX3_commit_69 : decode cX3_commit 69 = .ok (.iconst 3, 1) := by decide +kernel
theorem dX3_commit_70 : decode cX3_commit 70 = .ok (.iadd, 1) := by decide +kernel
theorem dX3_commit_71 : decode cX3_commit 71 = .ok (.iaload, 1) := by decide +kernel
theorem dX3_commit_72 : decode cX3_commit 72 = .ok (.aload_n 0, 1) := by decide +kernel
theorem dX3_commit_73 : decode cX3_commit 73 = .ok (.getfield 23, 3) := by decide +kernel
theorem dX3_commit_76 : decode cX3_commit 76 = .ok (.iconst 5, 1) := by decide +kernel
theorem dX3_commit_77 : decode cX3_commit 77 = .ok (.iload_n 3, 1) := by decide +kernel
theorem dX3_commit_78 : decode cX3_commit 78 = .ok (.imul, 1) := by decide +kernel
theorem dX3_commit_79 : decode cX3_commit 79 = .ok (.iconst 4, 1) := by decide +kernel
theorem dX3_commit_80 : decode cX3_commit 80 = .ok (.iadd, 1) := by decide +kernel
theorem dX3_commit_81 : decode cX3_commit 81 = .ok (.iaload, 1) := by decide +kernel
theorem dX3_commit_82 : decode cX3_commit 82 = .ok (.invokevirtual 87, 3) := by decide +kernel
theorem dX3_commit_85 : decode cX3_commit 85 = .ok (.istore 4, 2) := by decide +kernel
theorem dX3_commit_87 : decode cX3_commit 87 = .ok (.iload 4, 2) := by decide +kernel
theorem dX3_commit_89 : decode cX3_commit 89 = .ok (.ifCond .le 19, 3) := by decide +kernel
theorem dX3_commit_92 : decode cX3_commit 92 = .ok (.aload_n 0, 1) := by decide +kernel
theorem dX3_commit_93 : decode cX3_commit 93 = .ok (.invokevirtual 91, 3) := by decide +kernel
theorem dX3_commit_96 : decode cX3_commit 96 = .ok (.aload_n 0, 1) := by decide +kernel
theorem dX3_commit_97 : decode cX3_commit 97 = .ok (.iload_n 3, 1) := by decide +kernel
theorem dX3_commit_98 : decode cX3_commit 98 = .ok (.putfield 26, 3) := by decide +kernel
theorem dX3_commit_101 : decode cX3_commit 101 = .ok (.aload_n 0, 1) := by decide +kernel
theorem dX3_commit_102 : decode cX3_commit 102 = .ok (.iload 4, 2) := by decide +kernel
theorem dX3_commit_104 : decode cX3_commit 104 = .ok (.invokevirtual 36, 3) := by decide +kernel
theorem dX3_commit_107 : decode cX3_commit 107 = .ok (.ireturn, 1) := by decide +kernel
theorem dX3_commit_108 : decode cX3_commit 108 = .ok (.iload_n 2, 1) := by decide +kernel
theorem dX3_commit_109 : decode cX3_commit 109 = .ok (.aload_n 0, 1) := by decide +kernel
theorem dX3_commit_110 : decode cX3_commit 110 = .ok (.getfield 62, 3) := by decide +kernel
theorem dX3_commit_113 : decode cX3_commit 113 = .ok (.iadd, 1) := by decide +kernel
theorem dX3_commit_114 : decode cX3_commit 114 = .ok (.istore_n 2, 1) := by decide +kernel
theorem dX3_commit_115 : decode cX3_commit 115 = .ok (.iinc 3 1, 3) := by decide +kernel
theorem dX3_commit_118 : decode cX3_commit 118 = .ok (.goto (-90), 3) := by decide +kernel
theorem dX3_commit_121 : decode cX3_commit 121 = .ok (.iload_n 2, 1) := by decide +kernel
theorem dX3_commit_122 : decode cX3_commit 122 = .ok (.ireturn, 1) := by decide +kernel
theorem dX3_failed_0 : decode cX3_failed 0 = .ok (.aload_n 0, 1) := by decide +kernel
theorem dX3_failed_1 : decode cX3_failed 1 = .ok (.iconst 0, 1) := by decide +kernel
theorem dX3_failed_2 : decode cX3_failed 2 = .ok (.putfield 30, 3) := by decide +kernel
theorem dX3_failed_5 : decode cX3_failed 5 = .ok (.aload_n 0, 1) := by decide +kernel
theorem dX3_failed_6 : decode cX3_failed 6 = .ok (.getfield 26, 3) := by decide +kernel
theorem dX3_failed_9 : decode cX3_failed 9 = .ok (.ireturn, 1) := by decide +kernel
theorem dX3_isDay_0 : decode cX3_isDay 0 = .ok (.iload_n 0, 1) := by decide +kernel
theorem dX3_isDay_1 : decode cX3_isDay 1 = .ok (.ifCond .lt 13, 3) := by decide +kernel
theorem dX3_isDay_4 : decode cX3_isDay 4 = .ok (.iload_n 0, 1) := by decide +kernel
theorem dX3_isDay_5 : decode cX3_isDay 5 = .ok (.bipush 31, 2) := by decide +kernel
theorem dX3_isDay_7 : decode cX3_isDay 7 = .ok (.if_icmp .gt 7, 3) := by decide +kernel
theorem dX3_isDay_10 : decode cX3_isDay 10 = .ok (.iconst 1, 1) := by decide +kernel
theorem dX3_isDay_11 : decode cX3_isDay 11 = .ok (.goto 4, 3) := by decide +kernel
theorem dX3_isDay_14 : decode cX3_isDay 14 = .ok (.iconst 0, 1) := by decide +kernel
theorem dX3_isDay_15 : decode cX3_isDay 15 = .ok (.ireturn, 1) := by decide +kernel
theorem dX3_value_0 : decode cX3_value 0 = .ok (.aload_n 0, 1) := by decide +kernel
theorem dX3_value_1 : decode cX3_value 1 = .ok (.iconst 0, 1) := by decide +kernel
theorem dX3_value_2 : decode cX3_value 2 = .ok (.putfield 30, 3) := by decide +kernel
theorem dX3_value_5 : decode cX3_value 5 = .ok (.iload_n 1, 1) := by decide +kernel
theorem dX3_value_6 : decode cX3_value 6 = .ok (.invokestatic 65, 3) := by decide +kernel
theorem dX3_value_9 : decode cX3_value 9 = .ok (.ifCond .eq 18, 3) := by decide +kernel
theorem dX3_value_12 : decode cX3_value 12 = .ok (.iload_n 2, 1) := by decide +kernel
theorem dX3_value_13 : decode cX3_value 13 = .ok (.invokestatic 97, 3) := by decide +kernel
theorem dX3_value_16 : decode cX3_value 16 = .ok (.ifCond .eq 11, 3) := by decide +kernel
theorem dX3_value_19 : decode cX3_value 19 = .ok (.aload_n 0, 1) := by decide +kernel
theorem dX3_value_20 : decode cX3_value 20 = .ok (.iload_n 3, 1) := by decide +kernel
theorem dX3_value_21 : decode cX3_value 21 = .ok (.invokevirtual 100, 3) := by decide +kernel
theorem dX3_value_24 : decode cX3_value 24 = .ok (.ifCond .ne 9, 3) := by decide +kernel
theorem dX3_value_27 : decode cX3_value 27 = .ok (.aload_n 0, 1) := by decide +kernel
theorem dX3_value_28 : decode cX3_value 28 = .ok (.iconst 1, 1) := by decide +kernel
theorem dX3_value_29 : decode cX3_value 29 = .ok (.invokevirtual 36, 3) := by decide +kernel
theorem dX3_value_32 : decode cX3_value 32 = .ok (.ireturn, 1) := by decide +kernel
theorem dX3_value_33 : decode cX3_value 33 = .ok (.iload_n 3, 1) := by decide +kernel
theorem dX3_value_34 : decode cX3_value 34 = .ok (.iload_n 1, 1) := by decide +kernel
theorem dX3_value_35 : decode cX3_value 35 = .ok (.iload_n 2, 1) := by decide +kernel
theorem dX3_value_36 : decode cX3_value 36 = .ok (.invokestatic 40, 3) := by decide +kernel
theorem dX3_value_39 : decode cX3_value 39 = .ok (.istore 4, 2) := by decide +kernel
theorem dX3_value_41 : decode cX3_value 41 = .ok (.aload_n 0, 1) := by decide +kernel
theorem dX3_value_42 : decode cX3_value 42 = .ok (.getfield 7, 3) := by decide +kernel
theorem dX3_value_45 : decode cX3_value 45 = .ok (.iload 4, 2) := by decide +kernel
theorem dX3_value_47 : decode cX3_value 47 = .ok (.baload, 1) := by decide +kernel
theorem dX3_value_48 : decode cX3_value 48 = .ok (.ifCond .eq 13, 3) := by decide +kernel
theorem dX3_value_51 : decode cX3_value 51 = .ok (.aload_n 0, 1) := by decide +kernel
theorem dX3_value_52 : decode cX3_value 52 = .ok (.getfield 13, 3) := by decide +kernel
theorem dX3_value_55 : decode cX3_value 55 = .ok (.iload 4, 2) := by decide +kernel
theorem dX3_value_57 : decode cX3_value 57 = .ok (.iaload, 1) := by decide +kernel
theorem dX3_value_58 : decode cX3_value 58 = .ok (.goto 8, 3) := by decide +kernel
theorem dX3_value_61 : decode cX3_value 61 = .ok (.aload_n 0, 1) := by decide +kernel
theorem dX3_value_62 : decode cX3_value 62 = .ok (.iconst 2, 1) := by decide +kernel
theorem dX3_value_63 : decode cX3_value 63 = .ok (.invokevirtual 36, 3) := by decide +kernel
theorem dX3_value_66 : decode cX3_value 66 = .ok (.ireturn, 1) := by decide +kernel
theorem dX3_has_0 : decode cX3_has 0 = .ok (.aload_n 0, 1) := by decide +kernel
theorem dX3_has_1 : decode cX3_has 1 = .ok (.iconst 0, 1) := by decide +kernel
theorem dX3_has_2 : decode cX3_has 2 = .ok (.putfield 30, 3) := by decide +kernel
theorem dX3_has_5 : decode cX3_has 5 = .ok (.iload_n 1, 1) := by decide +kernel
theorem dX3_has_6 : decode cX3_has 6 = .ok (.invokestatic 65, 3) := by decide +kernel
theorem dX3_has_9 : decode cX3_has 9 = .ok (.ifCond .eq 36, 3) := by decide +kernel
theorem dX3_has_12 : decode cX3_has 12 = .ok (.iload_n 2, 1) := by decide +kernel
theorem dX3_has_13 : decode cX3_has 13 = .ok (.invokestatic 97, 3) := by decide +kernel
theorem dX3_has_16 : decode cX3_has 16 = .ok (.ifCond .eq 29, 3) := by decide +kernel
theorem dX3_has_19 : decode cX3_has 19 = .ok (.aload_n 0, 1) := by decide +kernel
theorem dX3_has_20 : decode cX3_has 20 = .ok (.iload_n 3, 1) := by decide +kernel
theorem dX3_has_21 : decode cX3_has 21 = .ok (.invokevirtual 100, 3) := by decide +kernel
theorem dX3_has_24 : decode cX3_has 24 = .ok (.ifCond .eq 21, 3) := by decide +kernel
theorem dX3_has_27 : decode cX3_has 27 = .ok (.aload_n 0, 1) := by decide +kernel
theorem dX3_has_28 : decode cX3_has 28 = .ok (.getfield 7, 3) := by decide +kernel
theorem dX3_has_31 : decode cX3_has 31 = .ok (.iload_n 3, 1) := by decide +kernel
theorem dX3_has_32 : decode cX3_has 32 = .ok (.iload_n 1, 1) := by decide +kernel
theorem dX3_has_33 : decode cX3_has 33 = .ok (.iload_n 2, 1) := by decide +kernel
theorem dX3_has_34 : decode cX3_has 34 = .ok (.invokestatic 40, 3) := by decide +kernel
theorem dX3_has_37 : decode cX3_has 37 = .ok (.baload, 1) := by decide +kernel
theorem dX3_has_38 : decode cX3_has 38 = .ok (.ifCond .eq 7, 3) := by decide +kernel
theorem dX3_has_41 : decode cX3_has 41 = .ok (.iconst 1, 1) := by decide +kernel
theorem dX3_has_42 : decode cX3_has 42 = .ok (.goto 4, 3) := by decide +kernel
theorem dX3_has_45 : decode cX3_has 45 = .ok (.iconst 0, 1) := by decide +kernel
theorem dX3_has_46 : decode cX3_has 46 = .ok (.ireturn, 1) := by decide +kernel
theorem dX3_sum_0 : decode cX3_sum 0 = .ok (.aload_n 0, 1) := by decide +kernel
theorem dX3_sum_1 : decode cX3_sum 1 = .ok (.iconst 0, 1) := by decide +kernel
theorem dX3_sum_2 : decode cX3_sum 2 = .ok (.putfield 30, 3) := by decide +kernel
theorem dX3_sum_5 : decode cX3_sum 5 = .ok (.iload_n 1, 1) := by decide +kernel
theorem dX3_sum_6 : decode cX3_sum 6 = .ok (.invokestatic 65, 3) := by decide +kernel
theorem dX3_sum_9 : decode cX3_sum 9 = .ok (.ifCond .eq 20, 3) := by decide +kernel
theorem dX3_sum_12 : decode cX3_sum 12 = .ok (.iload_n 2, 1) := by decide +kernel
theorem dX3_sum_13 : decode cX3_sum 13 = .ok (.iload_n 3, 1) := by decide +kernel
theorem dX3_sum_14 : decode cX3_sum 14 = .ok (.invokestatic 69, 3) := by decide +kernel
theorem dX3_sum_17 : decode cX3_sum 17 = .ok (.ifCond .eq 12, 3) := by decide +kernel
theorem dX3_sum_20 : decode cX3_sum 20 = .ok (.aload_n 0, 1) := by decide +kernel
theorem dX3_sum_21 : decode cX3_sum 21 = .ok (.iload 4, 2) := by decide +kernel
theorem dX3_sum_23 : decode cX3_sum 23 = .ok (.invokevirtual 100, 3) := by decide +kernel
theorem dX3_sum_26 : decode cX3_sum 26 = .ok (.ifCond .ne 10, 3) := by decide +kernel
theorem dX3_sum_29 : decode cX3_sum 29 = .ok (.aload_n 0, 1) := by decide +kernel
theorem dX3_sum_30 : decode cX3_sum 30 = .ok (.iconst 1, 1) := by decide +kernel
theorem dX3_sum_31 : decode cX3_sum 31 = .ok (.invokevirtual 36, 3) := by decide +kernel
theorem dX3_sum_34 : decode cX3_sum 34 = .ok (.i2l, 1) := by decide +kernel
theorem dX3_sum_35 : decode cX3_sum 35 = .ok (.lreturn, 1) := by decide +kernel
theorem dX3_sum_36 : decode cX3_sum 36 = .ok (.lconst 0, 1) := by decide +kernel
theorem dX3_sum_37 : decode cX3_sum 37 = .ok (.lstore 5, 2) := by decide +kernel
theorem dX3_sum_39 : decode cX3_sum 39 = .ok (.iload_n 2, 1) := by decide +kernel
theorem dX3_sum_40 : decode cX3_sum 40 = .ok (.istore 7, 2) := by decide +kernel
theorem dX3_sum_42 : decode cX3_sum 42 = .ok (.iload 7, 2) := by decide +kernel
theorem dX3_sum_44 : decode cX3_sum 44 = .ok (.iload_n 3, 1) := by decide +kernel
theorem dX3_sum_45 : decode cX3_sum 45 = .ok (.if_icmp .ge 48, 3) := by decide +kernel
theorem dX3_sum_48 : decode cX3_sum 48 = .ok (.lload 5, 2) := by decide +kernel
theorem dX3_sum_50 : decode cX3_sum 50 = .ok (.aload_n 0, 1) := by decide +kernel
theorem dX3_sum_51 : decode cX3_sum 51 = .ok (.getfield 7, 3) := by decide +kernel
theorem dX3_sum_54 : decode cX3_sum 54 = .ok (.iload 4, 2) := by decide +kernel
theorem dX3_sum_56 : decode cX3_sum 56 = .ok (.iload_n 1, 1) := by decide +kernel
theorem dX3_sum_57 : decode cX3_sum 57 = .ok (.iload 7, 2) := by decide +kernel
theorem dX3_sum_59 : decode cX3_sum 59 = .ok (.invokestatic 40, 3) := by decide +kernel
theorem dX3_sum_62 : decode cX3_sum 62 = .ok (.baload, 1) := by decide +kernel
theorem dX3_sum_63 : decode cX3_sum 63 = .ok (.ifCond .eq 20, 3) := by decide +kernel
theorem dX3_sum_66 : decode cX3_sum 66 = .ok (.aload_n 0, 1) := by decide +kernel
theorem dX3_sum_67 : decode cX3_sum 67 = .ok (.getfield 13, 3) := by decide +kernel
theorem dX3_sum_70 : decode cX3_sum 70 = .ok (.iload 4, 2) := by decide +kernel
theorem dX3_sum_72 : decode cX3_sum 72 = .ok (.iload_n 1, 1) := by decide +kernel
theorem dX3_sum_73 : decode cX3_sum 73 = .ok (.iload 7, 2) := by decide +kernel
theorem dX3_sum_75 : decode cX3_sum 75 = .ok (.invokestatic 40, 3) := by decide +kernel
theorem dX3_sum_78 : decode cX3_sum 78 = .ok (.iaload, 1) := by decide +kernel
theorem dX3_sum_79 : decode cX3_sum 79 = .ok (.i2l, 1) := by decide +kernel
theorem dX3_sum_80 : decode cX3_sum 80 = .ok (.goto 4, 3) := by decide +kernel
theorem dX3_sum_83 : decode cX3_sum 83 = .ok (.lconst 0, 1) := by decide +kernel
theorem dX3_sum_84 : decode cX3_sum 84 = .ok (.ladd, 1) := by decide +kernel
theorem dX3_sum_85 : decode cX3_sum 85 = .ok (.lstore 5, 2) := by decide +kernel
theorem dX3_sum_87 : decode cX3_sum 87 = .ok (.iinc 7 1, 3) := by decide +kernel
theorem dX3_sum_90 : decode cX3_sum 90 = .ok (.goto (-48), 3) := by decide +kernel
theorem dX3_sum_93 : decode cX3_sum 93 = .ok (.lload 5, 2) := by decide +kernel
theorem dX3_sum_95 : decode cX3_sum 95 = .ok (.lreturn, 1) := by decide +kernel
theorem dX3_runs_0 : decode cX3_runs 0 = .ok (.aload_n 0, 1) := by decide +kernel
theorem dX3_runs_1 : decode cX3_runs 1 = .ok (.iconst 0, 1) := by decide +kernel
theorem dX3_runs_2 : decode cX3_runs 2 = .ok (.putfield 30, 3) := by decide +kernel
theorem dX3_runs_5 : decode cX3_runs 5 = .ok (.iload_n 1, 1) := by decide +kernel
theorem dX3_runs_6 : decode cX3_runs 6 = .ok (.invokestatic 65, 3) := by decide +kernel
theorem dX3_runs_9 : decode cX3_runs 9 = .ok (.ifCond .eq 11, 3) := by decide +kernel
theorem dX3_runs_12 : decode cX3_runs 12 = .ok (.aload_n 0, 1) := by decide +kernel
theorem dX3_runs_13 : decode cX3_runs 13 = .ok (.iload_n 2, 1) := by decide +kernel
theorem dX3_runs_14 : decode cX3_runs 14 = .ok (.invokevirtual 100, 3) := by decide +kernel
theorem dX3_runs_17 : decode cX3_runs 17 = .ok (.ifCond .ne 9, 3) := by decide +kernel
theorem dX3_runs_20 : decode cX3_runs 20 = .ok (.aload_n 0, 1) := by decide +kernel
theorem dX3_runs_21 : decode cX3_runs 21 = .ok (.iconst 1, 1) := by decide +kernel
theorem dX3_runs_22 : decode cX3_runs 22 = .ok (.invokevirtual 36, 3) := by decide +kernel
theorem dX3_runs_25 : decode cX3_runs 25 = .ok (.ireturn, 1) := by decide +kernel
theorem dX3_runs_26 : decode cX3_runs 26 = .ok (.iconst 0, 1) := by decide +kernel
theorem dX3_runs_27 : decode cX3_runs 27 = .ok (.istore_n 3, 1) := by decide +kernel
theorem dX3_runs_28 : decode cX3_runs 28 = .ok (.iconst 0, 1) := by decide +kernel
theorem dX3_runs_29 : decode cX3_runs 29 = .ok (.istore 4, 2) := by decide +kernel
theorem dX3_runs_31 : decode cX3_runs 31 = .ok (.iload 4, 2) := by decide +kernel
theorem dX3_runs_33 : decode cX3_runs 33 = .ok (.bipush 32, 2) := by decide +kernel
theorem dX3_runs_35 : decode cX3_runs 35 = .ok (.if_icmp .ge 28, 3) := by decide +kernel
theorem dX3_runs_38 : decode cX3_runs 38 = .ok (.iload_n 3, 1) := by decide +kernel
theorem dX3_runs_39 : decode cX3_runs 39 = .ok (.aload_n 0, 1) := by decide +kernel
theorem dX3_runs_40 : decode cX3_runs 40 = .ok (.iload_n 2, 1) := by decide +kernel
theorem dX3_runs_41 : decode cX3_runs 41 = .ok (.iload_n 1, 1) := by decide +kernel
theorem dX3_runs_42 : decode cX3_runs 42 = .ok (.iload 4, 2) := by decide +kernel
theorem dX3_runs_44 : decode cX3_runs 44 = .ok (.invokevirtual 48, 3) := by decide +kernel
theorem dX3_runs_47 : decode cX3_runs 47 = .ok (.ifCond .eq 7, 3) := by decide +kernel
theorem dX3_runs_50 : decode cX3_runs 50 = .ok (.iconst 1, 1) := by decide +kernel
theorem dX3_runs_51 : decode cX3_runs 51 = .ok (.goto 4, 3) := by decide +kernel
theorem dX3_runs_54 : decode cX3_runs 54 = .ok (.iconst 0, 1) := by decide +kernel
theorem dX3_runs_55 : decode cX3_runs 55 = .ok (.iadd, 1) := by decide +kernel
theorem dX3_runs_56 : decode cX3_runs 56 = .ok (.istore_n 3, 1) := by decide +kernel
theorem dX3_runs_57 : decode cX3_runs 57 = .ok (.iinc 4 1, 3) := by decide +kernel
theorem dX3_runs_60 : decode cX3_runs 60 = .ok (.goto (-29), 3) := by decide +kernel
theorem dX3_runs_63 : decode cX3_runs 63 = .ok (.iload_n 3, 1) := by decide +kernel
theorem dX3_runs_64 : decode cX3_runs 64 = .ok (.ireturn, 1) := by decide +kernel
theorem dX3_run_0 : decode cX3_run 0 = .ok (.aload_n 0, 1) := by decide +kernel
theorem dX3_run_1 : decode cX3_run 1 = .ok (.iconst 0, 1) := by decide +kernel
theorem dX3_run_2 : decode cX3_run 2 = .ok (.putfield 30, 3) := by decide +kernel
theorem dX3_run_5 : decode cX3_run 5 = .ok (.iload_n 1, 1) := by decide +kernel
theorem dX3_run_6 : decode cX3_run 6 = .ok (.invokestatic 65, 3) := by decide +kernel
theorem dX3_run_9 : decode cX3_run 9 = .ok (.ifCond .eq 22, 3) := by decide +kernel
theorem dX3_run_12 : decode cX3_run 12 = .ok (.aload_n 0, 1) := by decide +kernel
theorem dX3_run_13 : decode cX3_run 13 = .ok (.iload_n 2, 1) := by decide +kernel
theorem dX3_run_14 : decode cX3_run 14 = .ok (.invokevirtual 100, 3) := by decide +kernel
theorem dX3_run_17 : decode cX3_run 17 = .ok (.ifCond .eq 14, 3) := by decide +kernel
theorem dX3_run_20 : decode cX3_run 20 = .ok (.iload 4, 2) := by decide +kernel
theorem dX3_run_22 : decode cX3_run 22 = .ok (.ifCond .lt 9, 3) := by decide +kernel
theorem dX3_run_25 : decode cX3_run 25 = .ok (.iload 4, 2) := by decide +kernel
theorem dX3_run_27 : decode cX3_run 27 = .ok (.iconst 2, 1) := by decide +kernel
theorem dX3_run_28 : decode cX3_run 28 = .ok (.if_icmp .le 9, 3) := by decide +kernel
theorem dX3_run_31 : decode cX3_run 31 = .ok (.aload_n 0, 1) := by decide +kernel
theorem dX3_run_32 : decode cX3_run 32 = .ok (.iconst 1, 1) := by decide +kernel
theorem dX3_run_33 : decode cX3_run 33 = .ok (.invokevirtual 36, 3) := by decide +kernel
theorem dX3_run_36 : decode cX3_run 36 = .ok (.ireturn, 1) := by decide +kernel
theorem dX3_run_37 : decode cX3_run 37 = .ok (.iconst 0, 1) := by decide +kernel
theorem dX3_run_38 : decode cX3_run 38 = .ok (.istore 5, 2) := by decide +kernel
theorem dX3_run_40 : decode cX3_run 40 = .ok (.iconst 0, 1) := by decide +kernel
theorem dX3_run_41 : decode cX3_run 41 = .ok (.istore 6, 2) := by decide +kernel
theorem dX3_run_43 : decode cX3_run 43 = .ok (.iload 6, 2) := by decide +kernel
theorem dX3_run_45 : decode cX3_run 45 = .ok (.bipush 32, 2) := by decide +kernel
theorem dX3_run_47 : decode cX3_run 47 = .ok (.if_icmp .ge 69, 3) := by decide +kernel
theorem dX3_run_50 : decode cX3_run 50 = .ok (.aload_n 0, 1) := by decide +kernel
theorem dX3_run_51 : decode cX3_run 51 = .ok (.iload_n 2, 1) := by decide +kernel
theorem dX3_run_52 : decode cX3_run 52 = .ok (.iload_n 1, 1) := by decide +kernel
theorem dX3_run_53 : decode cX3_run 53 = .ok (.iload 6, 2) := by decide +kernel
theorem dX3_run_55 : decode cX3_run 55 = .ok (.invokevirtual 48, 3) := by decide +kernel
theorem dX3_run_58 : decode cX3_run 58 = .ok (.ifCond .eq 52, 3) := by decide +kernel
theorem dX3_run_61 : decode cX3_run 61 = .ok (.iload 5, 2) := by decide +kernel
theorem dX3_run_63 : decode cX3_run 63 = .ok (.iload_n 3, 1) := by decide +kernel
theorem dX3_run_64 : decode cX3_run 64 = .ok (.if_icmp .ne 43, 3) := by decide +kernel
theorem dX3_run_67 : decode cX3_run 67 = .ok (.iload 4, 2) := by decide +kernel
theorem dX3_run_69 : decode cX3_run 69 = .ok (.ifCond .ne 8, 3) := by decide +kernel
theorem dX3_run_72 : decode cX3_run 72 = .ok (.iload 6, 2) := by decide +kernel
theorem dX3_run_74 : decode cX3_run 74 = .ok (.goto 32, 3) := by decide +kernel
theorem dX3_run_77 : decode cX3_run 77 = .ok (.iload 4, 2) := by decide +kernel
theorem dX3_run_79 : decode cX3_run 79 = .ok (.iconst 1, 1) := by decide +kernel
theorem dX3_run_80 : decode cX3_run 80 = .ok (.if_icmp .ne 14, 3) := by decide +kernel
theorem dX3_run_83 : decode cX3_run 83 = .ok (.aload_n 0, 1) := by decide +kernel
theorem dX3_run_84 : decode cX3_run 84 = .ok (.iload_n 2, 1) := by decide +kernel
theorem dX3_run_85 : decode cX3_run 85 = .ok (.iload_n 1, 1) := by decide +kernel
theorem dX3_run_86 : decode cX3_run 86 = .ok (.iload 6, 2) := by decide +kernel
theorem dX3_run_88 : decode cX3_run 88 = .ok (.invokevirtual 52, 3) := by decide +kernel
theorem dX3_run_91 : decode cX3_run 91 = .ok (.goto 15, 3) := by decide +kernel
theorem dX3_run_94 : decode cX3_run 94 = .ok (.aload_n 0, 1) := by decide +kernel
theorem dX3_run_95 : decode cX3_run 95 = .ok (.getfield 13, 3) := by decide +kernel
theorem dX3_run_98 : decode cX3_run 98 = .ok (.iload_n 2, 1) := by decide +kernel
theorem dX3_run_99 : decode cX3_run 99 = .ok (.iload_n 1, 1) := by decide +kernel
theorem dX3_run_100 : decode cX3_run 100 = .ok (.iload 6, 2) := by decide +kernel
theorem dX3_run_102 : decode cX3_run 102 = .ok (.invokestatic 40, 3) := by decide +kernel
theorem dX3_run_105 : decode cX3_run 105 = .ok (.iaload, 1) := by decide +kernel
theorem dX3_run_106 : decode cX3_run 106 = .ok (.ireturn, 1) := by decide +kernel
theorem dX3_run_107 : decode cX3_run 107 = .ok (.iinc 5 1, 3) := by decide +kernel
theorem dX3_run_110 : decode cX3_run 110 = .ok (.iinc 6 1, 3) := by decide +kernel
theorem dX3_run_113 : decode cX3_run 113 = .ok (.goto (-70), 3) := by decide +kernel
theorem dX3_run_116 : decode cX3_run 116 = .ok (.aload_n 0, 1) := by decide +kernel
theorem dX3_run_117 : decode cX3_run 117 = .ok (.iconst 2, 1) := by decide +kernel
theorem dX3_run_118 : decode cX3_run 118 = .ok (.invokevirtual 36, 3) := by decide +kernel
theorem dX3_run_121 : decode cX3_run 121 = .ok (.ireturn, 1) := by decide +kernel
theorem dX3_rows_0 : decode cX3_rows 0 = .ok (.aload_n 0, 1) := by decide +kernel
theorem dX3_rows_1 : decode cX3_rows 1 = .ok (.iconst 0, 1) := by decide +kernel
theorem dX3_rows_2 : decode cX3_rows 2 = .ok (.putfield 30, 3) := by decide +kernel
theorem dX3_rows_5 : decode cX3_rows 5 = .ok (.aload_n 0, 1) := by decide +kernel
theorem dX3_rows_6 : decode cX3_rows 6 = .ok (.invokevirtual 80, 3) := by decide +kernel
theorem dX3_rows_9 : decode cX3_rows 9 = .ok (.ireturn, 1) := by decide +kernel
theorem dX3_endTime_0 : decode cX3_endTime 0 = .ok (.aload_n 0, 1) := by decide +kernel
theorem dX3_endTime_1 : decode cX3_endTime 1 = .ok (.iload_n 1, 1) := by decide +kernel
theorem dX3_endTime_2 : decode cX3_endTime 2 = .ok (.iload_n 2, 1) := by decide +kernel
theorem dX3_endTime_3 : decode cX3_endTime 3 = .ok (.iload_n 3, 1) := by decide +kernel
theorem dX3_endTime_4 : decode cX3_endTime 4 = .ok (.invokevirtual 52, 3) := by decide +kernel
theorem dX3_endTime_7 : decode cX3_endTime 7 = .ok (.istore 4, 2) := by decide +kernel
theorem dX3_endTime_9 : decode cX3_endTime 9 = .ok (.aload_n 0, 1) := by decide +kernel
theorem dX3_endTime_10 : decode cX3_endTime 10 = .ok (.getfield 13, 3) := by decide +kernel
theorem dX3_endTime_13 : decode cX3_endTime 13 = .ok (.iload_n 1, 1) := by decide +kernel
theorem dX3_endTime_14 : decode cX3_endTime 14 = .ok (.iload_n 2, 1) := by decide +kernel
theorem dX3_endTime_15 : decode cX3_endTime 15 = .ok (.iload_n 3, 1) := by decide +kernel
theorem dX3_endTime_16 : decode cX3_endTime 16 = .ok (.invokestatic 40, 3) := by decide +kernel
theorem dX3_endTime_19 : decode cX3_endTime 19 = .ok (.iaload, 1) := by decide +kernel
theorem dX3_endTime_20 : decode cX3_endTime 20 = .ok (.istore 5, 2) := by decide +kernel
theorem dX3_endTime_22 : decode cX3_endTime 22 = .ok (.iload_n 1, 1) := by decide +kernel
theorem dX3_endTime_23 : decode cX3_endTime 23 = .ok (.iconst 1, 1) := by decide +kernel
theorem dX3_endTime_24 : decode cX3_endTime 24 = .ok (.iadd, 1) := by decide +kernel
theorem dX3_endTime_25 : decode cX3_endTime 25 = .ok (.istore 6, 2) := by decide +kernel
theorem dX3_endTime_27 : decode cX3_endTime 27 = .ok (.iload 6, 2) := by decide +kernel
theorem dX3_endTime_29 : decode cX3_endTime 29 = .ok (.aload_n 0, 1) := by decide +kernel
theorem dX3_endTime_30 : decode cX3_endTime 30 = .ok (.getfield 33, 3) := by decide +kernel
theorem dX3_endTime_33 : decode cX3_endTime 33 = .ok (.if_icmp .gt 24, 3) := by decide +kernel
theorem dX3_endTime_36 : decode cX3_endTime 36 = .ok (.aload_n 0, 1) := by decide +kernel
theorem dX3_endTime_37 : decode cX3_endTime 37 = .ok (.iload 6, 2) := by decide +kernel
theorem dX3_endTime_39 : decode cX3_endTime 39 = .ok (.iload_n 2, 1) := by decide +kernel
theorem dX3_endTime_40 : decode cX3_endTime 40 = .ok (.iload_n 3, 1) := by decide +kernel
theorem dX3_endTime_41 : decode cX3_endTime 41 = .ok (.iload 4, 2) := by decide +kernel
theorem dX3_endTime_43 : decode cX3_endTime 43 = .ok (.iload 5, 2) := by decide +kernel
theorem dX3_endTime_45 : decode cX3_endTime 45 = .ok (.invokevirtual 55, 3) := by decide +kernel
theorem dX3_endTime_48 : decode cX3_endTime 48 = .ok (.ifCond .eq 9, 3) := by decide +kernel
theorem dX3_endTime_51 : decode cX3_endTime 51 = .ok (.iinc 6 1, 3) := by decide +kernel
theorem dX3_endTime_54 : decode cX3_endTime 54 = .ok (.goto (-27), 3) := by decide +kernel
theorem dX3_endTime_57 : decode cX3_endTime 57 = .ok (.iload 6, 2) := by decide +kernel
theorem dX3_endTime_59 : decode cX3_endTime 59 = .ok (.aload_n 0, 1) := by decide +kernel
theorem dX3_endTime_60 : decode cX3_endTime 60 = .ok (.getfield 33, 3) := by decide +kernel
theorem dX3_endTime_63 : decode cX3_endTime 63 = .ok (.if_icmp .le 7, 3) := by decide +kernel
theorem dX3_endTime_66 : decode cX3_endTime 66 = .ok (.iconst (-1), 1) := by decide +kernel
theorem dX3_endTime_67 : decode cX3_endTime 67 = .ok (.goto 5, 3) := by decide +kernel
theorem dX3_endTime_70 : decode cX3_endTime 70 = .ok (.iload 6, 2) := by decide +kernel
theorem dX3_endTime_72 : decode cX3_endTime 72 = .ok (.ireturn, 1) := by decide +kernel
theorem dX3_row_0 : decode cX3_row 0 = .ok (.aload_n 0, 1) := by decide +kernel
theorem dX3_row_1 : decode cX3_row 1 = .ok (.iconst 0, 1) := by decide +kernel
theorem dX3_row_2 : decode cX3_row 2 = .ok (.putfield 30, 3) := by decide +kernel
theorem dX3_row_5 : decode cX3_row 5 = .ok (.iload_n 2, 1) := by decide +kernel
theorem dX3_row_6 : decode cX3_row 6 = .ok (.ifCond .lt 8, 3) := by decide +kernel
theorem dX3_row_9 : decode cX3_row 9 = .ok (.iload_n 2, 1) := by decide +kernel
theorem dX3_row_10 : decode cX3_row 10 = .ok (.iconst 5, 1) := by decide +kernel
theorem dX3_row_11 : decode cX3_row 11 = .ok (.if_icmp .le 9, 3) := by decide +kernel
theorem dX3_row_14 : decode cX3_row 14 = .ok (.aload_n 0, 1) := by decide +kernel
theorem dX3_row_15 : decode cX3_row 15 = .ok (.iconst 1, 1) := by decide +kernel
theorem dX3_row_16 : decode cX3_row 16 = .ok (.invokevirtual 36, 3) := by decide +kernel
theorem dX3_row_19 : decode cX3_row 19 = .ok (.ireturn, 1) := by decide +kernel
theorem dX3_row_20 : decode cX3_row 20 = .ok (.iconst 0, 1) := by decide +kernel
theorem dX3_row_21 : decode cX3_row 21 = .ok (.istore_n 3, 1) := by decide +kernel
theorem dX3_row_22 : decode cX3_row 22 = .ok (.iconst 0, 1) := by decide +kernel
theorem dX3_row_23 : decode cX3_row 23 = .ok (.istore 4, 2) := by decide +kernel
theorem dX3_row_25 : decode cX3_row 25 = .ok (.iload 4, 2) := by decide +kernel
theorem dX3_row_27 : decode cX3_row 27 = .ok (.iconst 4, 1) := by decide +kernel
theorem dX3_row_28 : decode cX3_row 28 = .ok (.if_icmp .ge 144, 3) := by decide +kernel
theorem dX3_row_31 : decode cX3_row 31 = .ok (.iconst 0, 1) := by decide +kernel
theorem dX3_row_32 : decode cX3_row 32 = .ok (.istore 5, 2) := by decide +kernel
theorem dX3_row_34 : decode cX3_row 34 = .ok (.iload 5, 2) := by decide +kernel
theorem dX3_row_36 : decode cX3_row 36 = .ok (.aload_n 0, 1) := by decide +kernel
theorem dX3_row_37 : decode cX3_row 37 = .ok (.getfield 33, 3) := by decide +kernel
theorem dX3_row_40 : decode cX3_row 40 = .ok (.if_icmp .gt 126, 3) := by decide +kernel
theorem dX3_row_43 : decode cX3_row 43 = .ok (.iconst 0, 1) := by decide +kernel
theorem dX3_row_44 : decode cX3_row 44 = .ok (.istore 6, 2) := by decide +kernel
theorem dX3_row_46 : decode cX3_row 46 = .ok (.iload 6, 2) := by decide +kernel
theorem dX3_row_48 : decode cX3_row 48 = .ok (.bipush 32, 2) := by decide +kernel
theorem dX3_row_50 : decode cX3_row 50 = .ok (.if_icmp .ge 110, 3) := by decide +kernel
theorem dX3_row_53 : decode cX3_row 53 = .ok (.aload_n 0, 1) := by decide +kernel
theorem dX3_row_54 : decode cX3_row 54 = .ok (.iload 5, 2) := by decide +kernel
theorem dX3_row_56 : decode cX3_row 56 = .ok (.iload 4, 2) := by decide +kernel
theorem dX3_row_58 : decode cX3_row 58 = .ok (.iload 6, 2) := by decide +kernel
theorem dX3_row_60 : decode cX3_row 60 = .ok (.invokevirtual 59, 3) := by decide +kernel
theorem dX3_row_63 : decode cX3_row 63 = .ok (.ifCond .eq 91, 3) := by decide +kernel
theorem dX3_row_66 : decode cX3_row 66 = .ok (.iload_n 3, 1) := by decide +kernel
theorem dX3_row_67 : decode cX3_row 67 = .ok (.iload_n 1, 1) := by decide +kernel
theorem dX3_row_68 : decode cX3_row 68 = .ok (.if_icmp .ne 83, 3) := by decide +kernel
theorem dX3_row_71 : decode cX3_row 71 = .ok (.iload_n 2, 1) := by decide +kernel
theorem dX3_row_72 : decode cX3_row 72 = .ok (.ifCond .ne 8, 3) := by decide +kernel
theorem dX3_row_75 : decode cX3_row 75 = .ok (.iload 4, 2) := by decide +kernel
theorem dX3_row_77 : decode cX3_row 77 = .ok (.goto 73, 3) := by decide +kernel
theorem dX3_row_80 : decode cX3_row 80 = .ok (.iload_n 2, 1) := by decide +kernel
theorem dX3_row_81 : decode cX3_row 81 = .ok (.iconst 1, 1) := by decide +kernel
theorem dX3_row_82 : decode cX3_row 82 = .ok (.if_icmp .ne 20, 3) := by decide +kernel
theorem dX3_row_85 : decode cX3_row 85 = .ok (.aload_n 0, 1) := by decide +kernel
theorem dX3_row_86 : decode cX3_row 86 = .ok (.getfield 13, 3) := by decide +kernel
theorem dX3_row_89 : decode cX3_row 89 = .ok (.iload 5, 2) := by decide +kernel
theorem dX3_row_91 : decode cX3_row 91 = .ok (.iload 4, 2) := by decide +kernel
theorem dX3_row_93 : decode cX3_row 93 = .ok (.iload 6, 2) := by decide +kernel
theorem dX3_row_95 : decode cX3_row 95 = .ok (.invokestatic 40, 3) := by decide +kernel
theorem dX3_row_98 : decode cX3_row 98 = .ok (.iaload, 1) := by decide +kernel
theorem dX3_row_99 : decode cX3_row 99 = .ok (.goto 51, 3) := by decide +kernel
theorem dX3_row_102 : decode cX3_row 102 = .ok (.iload_n 2, 1) := by decide +kernel
theorem dX3_row_103 : decode cX3_row 103 = .ok (.iconst 2, 1) := by decide +kernel
theorem dX3_row_104 : decode cX3_row 104 = .ok (.if_icmp .ne 8, 3) := by decide +kernel
theorem dX3_row_107 : decode cX3_row 107 = .ok (.iload 6, 2) := by decide +kernel
theorem dX3_row_109 : decode cX3_row 109 = .ok (.goto 41, 3) := by decide +kernel
theorem dX3_row_112 : decode cX3_row 112 = .ok (.iload_n 2, 1) := by decide +kernel
theorem dX3_row_113 : decode cX3_row 113 = .ok (.iconst 3, 1) := by decide +kernel
theorem dX3_row_114 : decode cX3_row 114 = .ok (.if_icmp .ne 16, 3) := by decide +kernel
theorem dX3_row_117 : decode cX3_row 117 = .ok (.aload_n 0, 1) := by decide +kernel
theorem dX3_row_118 : decode cX3_row 118 = .ok (.iload 5, 2) := by decide +kernel
theorem dX3_row_120 : decode cX3_row 120 = .ok (.iload 4, 2) := by decide +kernel
theorem dX3_row_122 : decode cX3_row 122 = .ok (.iload 6, 2) := by decide +kernel
theorem dX3_row_124 : decode cX3_row 124 = .ok (.invokevirtual 52, 3) := by decide +kernel
theorem dX3_row_127 : decode cX3_row 127 = .ok (.goto 23, 3) := by decide +kernel
theorem dX3_row_130 : decode cX3_row 130 = .ok (.iload_n 2, 1) := by decide +kernel
theorem dX3_row_131 : decode cX3_row 131 = .ok (.iconst 4, 1) := by decide +kernel
theorem dX3_row_132 : decode cX3_row 132 = .ok (.if_icmp .ne 8, 3) := by decide +kernel
theorem dX3_row_135 : decode cX3_row 135 = .ok (.iload 5, 2) := by decide +kernel
theorem dX3_row_137 : decode cX3_row 137 = .ok (.goto 13, 3) := by decide +kernel
theorem dX3_row_140 : decode cX3_row 140 = .ok (.aload_n 0, 1) := by decide +kernel
theorem dX3_row_141 : decode cX3_row 141 = .ok (.iload 5, 2) := by decide +kernel
theorem dX3_row_143 : decode cX3_row 143 = .ok (.iload 4, 2) := by decide +kernel
theorem dX3_row_145 : decode cX3_row 145 = .ok (.iload 6, 2) := by decide +kernel
theorem dX3_row_147 : decode cX3_row 147 = .ok (.invokevirtual 103, 3) := by decide +kernel
theorem dX3_row_150 : decode cX3_row 150 = .ok (.ireturn, 1) := by decide +kernel
theorem dX3_row_151 : decode cX3_row 151 = .ok (.iinc 3 1, 3) := by decide +kernel
theorem dX3_row_154 : decode cX3_row 154 = .ok (.iinc 6 1, 3) := by decide +kernel
theorem dX3_row_157 : decode cX3_row 157 = .ok (.goto (-111), 3) := by decide +kernel
theorem dX3_row_160 : decode cX3_row 160 = .ok (.iinc 5 1, 3) := by decide +kernel
theorem dX3_row_163 : decode cX3_row 163 = .ok (.goto (-129), 3) := by decide +kernel
theorem dX3_row_166 : decode cX3_row 166 = .ok (.iinc 4 1, 3) := by decide +kernel
theorem dX3_row_169 : decode cX3_row 169 = .ok (.goto (-144), 3) := by decide +kernel
theorem dX3_row_172 : decode cX3_row 172 = .ok (.aload_n 0, 1) := by decide +kernel
theorem dX3_row_173 : decode cX3_row 173 = .ok (.iconst 2, 1) := by decide +kernel
theorem dX3_row_174 : decode cX3_row 174 = .ok (.invokevirtual 36, 3) := by decide +kernel
theorem dX3_row_177 : decode cX3_row 177 = .ok (.ireturn, 1) := by decide +kernel
theorem dX3_changes_0 : decode cX3_changes 0 = .ok (.aload_n 0, 1) := by decide +kernel
theorem dX3_changes_1 : decode cX3_changes 1 = .ok (.iconst 0, 1) := by decide +kernel
theorem dX3_changes_2 : decode cX3_changes 2 = .ok (.putfield 30, 3) := by decide +kernel
theorem dX3_changes_5 : decode cX3_changes 5 = .ok (.iload_n 1, 1) := by decide +kernel
theorem dX3_changes_6 : decode cX3_changes 6 = .ok (.invokestatic 65, 3) := by decide +kernel
theorem dX3_changes_9 : decode cX3_changes 9 = .ok (.ifCond .eq 10, 3) := by decide +kernel
theorem dX3_changes_12 : decode cX3_changes 12 = .ok (.iload_n 2, 1) := by decide +kernel
theorem dX3_changes_13 : decode cX3_changes 13 = .ok (.invokestatic 97, 3) := by decide +kernel
theorem dX3_changes_16 : decode cX3_changes 16 = .ok (.ifCond .ne 9, 3) := by decide +kernel
theorem dX3_changes_19 : decode cX3_changes 19 = .ok (.aload_n 0, 1) := by decide +kernel
theorem dX3_changes_20 : decode cX3_changes 20 = .ok (.iconst 1, 1) := by decide +kernel
theorem dX3_changes_21 : decode cX3_changes 21 = .ok (.invokevirtual 36, 3) := by decide +kernel
theorem dX3_changes_24 : decode cX3_changes 24 = .ok (.ireturn, 1) := by decide +kernel
theorem dX3_changes_25 : decode cX3_changes 25 = .ok (.iconst 0, 1) := by decide +kernel
theorem dX3_changes_26 : decode cX3_changes 26 = .ok (.istore_n 3, 1) := by decide +kernel
theorem dX3_changes_27 : decode cX3_changes 27 = .ok (.iconst 1, 1) := by decide +kernel
theorem dX3_changes_28 : decode cX3_changes 28 = .ok (.istore 4, 2) := by decide +kernel
theorem dX3_changes_30 : decode cX3_changes 30 = .ok (.iload 4, 2) := by decide +kernel
theorem dX3_changes_32 : decode cX3_changes 32 = .ok (.aload_n 0, 1) := by decide +kernel
theorem dX3_changes_33 : decode cX3_changes 33 = .ok (.getfield 33, 3) := by decide +kernel
theorem dX3_changes_36 : decode cX3_changes 36 = .ok (.if_icmp .gt 81, 3) := by decide +kernel
theorem dX3_changes_39 : decode cX3_changes 39 = .ok (.iload 4, 2) := by decide +kernel
theorem dX3_changes_41 : decode cX3_changes 41 = .ok (.iconst 1, 1) := by decide +kernel
theorem dX3_changes_42 : decode cX3_changes 42 = .ok (.isub, 1) := by decide +kernel
theorem dX3_changes_43 : decode cX3_changes 43 = .ok (.iload_n 1, 1) := by decide +kernel
theorem dX3_changes_44 : decode cX3_changes 44 = .ok (.iload_n 2, 1) := by decide +kernel
theorem dX3_changes_45 : decode cX3_changes 45 = .ok (.invokestatic 40, 3) := by decide +kernel
theorem dX3_changes_48 : decode cX3_changes 48 = .ok (.istore 5, 2) := by decide +kernel
theorem dX3_changes_50 : decode cX3_changes 50 = .ok (.iload 4, 2) := by decide +kernel
theorem dX3_changes_52 : decode cX3_changes 52 = .ok (.iload_n 1, 1) := by decide +kernel
theorem dX3_changes_53 : decode cX3_changes 53 = .ok (.iload_n 2, 1) := by decide +kernel
theorem dX3_changes_54 : decode cX3_changes 54 = .ok (.invokestatic 40, 3) := by decide +kernel
theorem dX3_changes_57 : decode cX3_changes 57 = .ok (.istore 6, 2) := by decide +kernel
theorem dX3_changes_59 : decode cX3_changes 59 = .ok (.iload_n 3, 1) := by decide +kernel
theorem dX3_changes_60 : decode cX3_changes 60 = .ok (.aload_n 0, 1) := by decide +kernel
theorem dX3_changes_61 : decode cX3_changes 61 = .ok (.getfield 7, 3) := by decide +kernel
theorem dX3_changes_64 : decode cX3_changes 64 = .ok (.iload 5, 2) := by decide +kernel
theorem dX3_changes_66 : decode cX3_changes 66 = .ok (.baload, 1) := by decide +kernel
theorem dX3_changes_67 : decode cX3_changes 67 = .ok (.aload_n 0, 1) := by decide +kernel
theorem dX3_changes_68 : decode cX3_changes 68 = .ok (.getfield 7, 3) := by decide +kernel
theorem dX3_changes_71 : decode cX3_changes 71 = .ok (.iload 6, 2) := by decide +kernel
theorem dX3_changes_73 : decode cX3_changes 73 = .ok (.baload, 1) := by decide +kernel
theorem dX3_changes_74 : decode cX3_changes 74 = .ok (.if_icmp .ne 30, 3) := by decide +kernel
theorem dX3_changes_77 : decode cX3_changes 77 = .ok (.aload_n 0, 1) := by decide +kernel
theorem dX3_changes_78 : decode cX3_changes 78 = .ok (.getfield 7, 3) := by decide +kernel
theorem dX3_changes_81 : decode cX3_changes 81 = .ok (.iload 5, 2) := by decide +kernel
theorem dX3_changes_83 : decode cX3_changes 83 = .ok (.baload, 1) := by decide +kernel
theorem dX3_changes_84 : decode cX3_changes 84 = .ok (.ifCond .eq 24, 3) := by decide +kernel
theorem dX3_changes_87 : decode cX3_changes 87 = .ok (.aload_n 0, 1) := by decide +kernel
theorem dX3_changes_88 : decode cX3_changes 88 = .ok (.getfield 13, 3) := by decide +kernel
theorem dX3_changes_91 : decode cX3_changes 91 = .ok (.iload 5, 2) := by decide +kernel
theorem dX3_changes_93 : decode cX3_changes 93 = .ok (.iaload, 1) := by decide +kernel
theorem dX3_changes_94 : decode cX3_changes 94 = .ok (.aload_n 0, 1) := by decide +kernel
theorem dX3_changes_95 : decode cX3_changes 95 = .ok (.getfield 13, 3) := by decide +kernel
theorem dX3_changes_98 : decode cX3_changes 98 = .ok (.iload 6, 2) := by decide +kernel
theorem dX3_changes_100 : decode cX3_changes 100 = .ok (.iaload, 1) := by decide +kernel
theorem dX3_changes_101 : decode cX3_changes 101 = .ok (.if_icmp .eq 7, 3) := by decide +kernel
theorem dX3_changes_104 : decode cX3_changes 104 = .ok (.iconst 1, 1) := by decide +kernel
theorem dX3_changes_105 : decode cX3_changes 105 = .ok (.goto 4, 3) := by decide +kernel
theorem dX3_changes_108 : decode cX3_changes 108 = .ok (.iconst 0, 1) := by decide +kernel
theorem dX3_changes_109 : decode cX3_changes 109 = .ok (.iadd, 1) := by decide +kernel
theorem dX3_changes_110 : decode cX3_changes 110 = .ok (.istore_n 3, 1) := by decide +kernel
theorem dX3_changes_111 : decode cX3_changes 111 = .ok (.iinc 4 1, 3) := by decide +kernel
theorem dX3_changes_114 : decode cX3_changes 114 = .ok (.goto (-84), 3) := by decide +kernel
theorem dX3_changes_117 : decode cX3_changes 117 = .ok (.iload_n 3, 1) := by decide +kernel
theorem dX3_changes_118 : decode cX3_changes 118 = .ok (.ireturn, 1) := by decide +kernel
theorem dX3_early_0 : decode cX3_early 0 = .ok (.iload_n 1, 1) := by decide +kernel
theorem dX3_early_1 : decode cX3_early 1 = .ok (.iload_n 2, 1) := by decide +kernel
theorem dX3_early_2 : decode cX3_early 2 = .ok (.if_icmp .ge 5, 3) := by decide +kernel
theorem dX3_early_5 : decode cX3_early 5 = .ok (.iconst 0, 1) := by decide +kernel
theorem dX3_early_6 : decode cX3_early 6 = .ok (.ireturn, 1) := by decide +kernel
theorem dX3_early_7 : decode cX3_early 7 = .ok (.iload_n 1, 1) := by decide +kernel
theorem dX3_early_8 : decode cX3_early 8 = .ok (.iload_n 2, 1) := by decide +kernel
theorem dX3_early_9 : decode cX3_early 9 = .ok (.if_icmp .ne 5, 3) := by decide +kernel
theorem dX3_early_12 : decode cX3_early 12 = .ok (.iconst 1, 1) := by decide +kernel
theorem dX3_early_13 : decode cX3_early 13 = .ok (.ireturn, 1) := by decide +kernel
theorem dX3_early_14 : decode cX3_early 14 = .ok (.iload_n 0, 1) := by decide +kernel
theorem dX3_early_15 : decode cX3_early 15 = .ok (.iload_n 2, 1) := by decide +kernel
theorem dX3_early_16 : decode cX3_early 16 = .ok (.if_icmp .ge 10, 3) := by decide +kernel
theorem dX3_early_19 : decode cX3_early 19 = .ok (.iload_n 1, 1) := by decide +kernel
theorem dX3_early_20 : decode cX3_early 20 = .ok (.iload_n 3, 1) := by decide +kernel
theorem dX3_early_21 : decode cX3_early 21 = .ok (.if_icmp .ge 5, 3) := by decide +kernel
theorem dX3_early_24 : decode cX3_early 24 = .ok (.iconst 2, 1) := by decide +kernel
theorem dX3_early_25 : decode cX3_early 25 = .ok (.ireturn, 1) := by decide +kernel
theorem dX3_early_26 : decode cX3_early 26 = .ok (.iload_n 0, 1) := by decide +kernel
theorem dX3_early_27 : decode cX3_early 27 = .ok (.iload_n 2, 1) := by decide +kernel
theorem dX3_early_28 : decode cX3_early 28 = .ok (.if_icmp .ne 10, 3) := by decide +kernel
theorem dX3_early_31 : decode cX3_early 31 = .ok (.iload_n 1, 1) := by decide +kernel
theorem dX3_early_32 : decode cX3_early 32 = .ok (.iload_n 3, 1) := by decide +kernel
theorem dX3_early_33 : decode cX3_early 33 = .ok (.if_icmp .ge 5, 3) := by decide +kernel
theorem dX3_early_36 : decode cX3_early 36 = .ok (.iconst 3, 1) := by decide +kernel
theorem dX3_early_37 : decode cX3_early 37 = .ok (.ireturn, 1) := by decide +kernel
theorem dX3_early_38 : decode cX3_early 38 = .ok (.iload_n 0, 1) := by decide +kernel
theorem dX3_early_39 : decode cX3_early 39 = .ok (.iload_n 2, 1) := by decide +kernel
theorem dX3_early_40 : decode cX3_early 40 = .ok (.if_icmp .le 19, 3) := by decide +kernel
theorem dX3_early_43 : decode cX3_early 43 = .ok (.iload_n 1, 1) := by decide +kernel
theorem dX3_early_44 : decode cX3_early 44 = .ok (.iload_n 3, 1) := by decide +kernel
theorem dX3_early_45 : decode cX3_early 45 = .ok (.if_icmp .ge 14, 3) := by decide +kernel
theorem dX3_early_48 : decode cX3_early 48 = .ok (.iload_n 0, 1) := by decide +kernel
theorem dX3_early_49 : decode cX3_early 49 = .ok (.iload_n 3, 1) := by decide +kernel
theorem dX3_early_50 : decode cX3_early 50 = .ok (.if_icmp .ge 7, 3) := by decide +kernel
theorem dX3_early_53 : decode cX3_early 53 = .ok (.iconst 4, 1) := by decide +kernel
theorem dX3_early_54 : decode cX3_early 54 = .ok (.goto 4, 3) := by decide +kernel
theorem dX3_early_57 : decode cX3_early 57 = .ok (.iconst (-1), 1) := by decide +kernel
theorem dX3_early_58 : decode cX3_early 58 = .ok (.ireturn, 1) := by decide +kernel
theorem dX3_early_59 : decode cX3_early 59 = .ok (.iload_n 0, 1) := by decide +kernel
theorem dX3_early_60 : decode cX3_early 60 = .ok (.iload_n 2, 1) := by decide +kernel
theorem dX3_early_61 : decode cX3_early 61 = .ok (.if_icmp .le 10, 3) := by decide +kernel
theorem dX3_early_64 : decode cX3_early 64 = .ok (.iload_n 1, 1) := by decide +kernel
theorem dX3_early_65 : decode cX3_early 65 = .ok (.iload_n 3, 1) := by decide +kernel
theorem dX3_early_66 : decode cX3_early 66 = .ok (.if_icmp .ne 5, 3) := by decide +kernel
theorem dX3_early_69 : decode cX3_early 69 = .ok (.iconst 5, 1) := by decide +kernel
theorem dX3_early_70 : decode cX3_early 70 = .ok (.ireturn, 1) := by decide +kernel
theorem dX3_early_71 : decode cX3_early 71 = .ok (.iload_n 0, 1) := by decide +kernel
theorem dX3_early_72 : decode cX3_early 72 = .ok (.iload_n 2, 1) := by decide +kernel
theorem dX3_early_73 : decode cX3_early 73 = .ok (.if_icmp .ne 13, 3) := by decide +kernel
theorem dX3_early_76 : decode cX3_early 76 = .ok (.iload_n 1, 1) := by decide +kernel
theorem dX3_early_77 : decode cX3_early 77 = .ok (.iload_n 3, 1) := by decide +kernel
theorem dX3_early_78 : decode cX3_early 78 = .ok (.if_icmp .ne 8, 3) := by decide +kernel
theorem dX3_early_81 : decode cX3_early 81 = .ok (.bipush 6, 2) := by decide +kernel
theorem dX3_early_83 : decode cX3_early 83 = .ok (.goto 4, 3) := by decide +kernel
theorem dX3_early_86 : decode cX3_early 86 = .ok (.iconst (-1), 1) := by decide +kernel
theorem dX3_early_87 : decode cX3_early 87 = .ok (.ireturn, 1) := by decide +kernel
theorem dX3_lies_0 : decode cX3_lies 0 = .ok (.iload_n 0, 1) := by decide +kernel
theorem dX3_lies_1 : decode cX3_lies 1 = .ok (.iload_n 1, 1) := by decide +kernel
theorem dX3_lies_2 : decode cX3_lies 2 = .ok (.iload_n 2, 1) := by decide +kernel
theorem dX3_lies_3 : decode cX3_lies 3 = .ok (.iload_n 3, 1) := by decide +kernel
theorem dX3_lies_4 : decode cX3_lies 4 = .ok (.invokestatic 106, 3) := by decide +kernel
theorem dX3_lies_7 : decode cX3_lies 7 = .ok (.istore 4, 2) := by decide +kernel
theorem dX3_lies_9 : decode cX3_lies 9 = .ok (.iload 4, 2) := by decide +kernel
theorem dX3_lies_11 : decode cX3_lies 11 = .ok (.ifCond .lt 8, 3) := by decide +kernel
theorem dX3_lies_14 : decode cX3_lies 14 = .ok (.iload 4, 2) := by decide +kernel
theorem dX3_lies_16 : decode cX3_lies 16 = .ok (.goto 13, 3) := by decide +kernel
theorem dX3_lies_19 : decode cX3_lies 19 = .ok (.bipush 12, 2) := by decide +kernel
theorem dX3_lies_21 : decode cX3_lies 21 = .ok (.iload_n 2, 1) := by decide +kernel
theorem dX3_lies_22 : decode cX3_lies 22 = .ok (.iload_n 3, 1) := by decide +kernel
theorem dX3_lies_23 : decode cX3_lies 23 = .ok (.iload_n 0, 1) := by decide +kernel
theorem dX3_lies_24 : decode cX3_lies 24 = .ok (.iload_n 1, 1) := by decide +kernel
theorem dX3_lies_25 : decode cX3_lies 25 = .ok (.invokestatic 106, 3) := by decide +kernel
theorem dX3_lies_28 : decode cX3_lies 28 = .ok (.isub, 1) := by decide +kernel
theorem dX3_lies_29 : decode cX3_lies 29 = .ok (.ireturn, 1) := by decide +kernel
theorem dX3_relation_0 : decode cX3_relation 0 = .ok (.aload_n 0, 1) := by decide +kernel
theorem dX3_relation_1 : decode cX3_relation 1 = .ok (.iconst 0, 1) := by decide +kernel
theorem dX3_relation_2 : decode cX3_relation 2 = .ok (.putfield 30, 3) := by decide +kernel
theorem dX3_relation_5 : decode cX3_relation 5 = .ok (.iload_n 1, 1) := by decide +kernel
theorem dX3_relation_6 : decode cX3_relation 6 = .ok (.iload_n 2, 1) := by decide +kernel
theorem dX3_relation_7 : decode cX3_relation 7 = .ok (.invokestatic 69, 3) := by decide +kernel
theorem dX3_relation_10 : decode cX3_relation 10 = .ok (.ifCond .eq 12, 3) := by decide +kernel
theorem dX3_relation_13 : decode cX3_relation 13 = .ok (.iload_n 3, 1) := by decide +kernel
theorem dX3_relation_14 : decode cX3_relation 14 = .ok (.iload 4, 2) := by decide +kernel
theorem dX3_relation_16 : decode cX3_relation 16 = .ok (.invokestatic 69, 3) := by decide +kernel
theorem dX3_relation_19 : decode cX3_relation 19 = .ok (.ifCond .ne 9, 3) := by decide +kernel
theorem dX3_relation_22 : decode cX3_relation 22 = .ok (.aload_n 0, 1) := by decide +kernel
theorem dX3_relation_23 : decode cX3_relation 23 = .ok (.iconst 1, 1) := by decide +kernel
theorem dX3_relation_24 : decode cX3_relation 24 = .ok (.invokevirtual 36, 3) := by decide +kernel
theorem dX3_relation_27 : decode cX3_relation 27 = .ok (.ireturn, 1) := by decide +kernel
theorem dX3_relation_28 : decode cX3_relation 28 = .ok (.iload_n 1, 1) := by decide +kernel
theorem dX3_relation_29 : decode cX3_relation 29 = .ok (.iload_n 2, 1) := by decide +kernel
theorem dX3_relation_30 : decode cX3_relation 30 = .ok (.iload_n 3, 1) := by decide +kernel
theorem dX3_relation_31 : decode cX3_relation 31 = .ok (.iload 4, 2) := by decide +kernel
theorem dX3_relation_33 : decode cX3_relation 33 = .ok (.invokestatic 110, 3) := by decide +kernel
theorem dX3_relation_36 : decode cX3_relation 36 = .ok (.ireturn, 1) := by decide +kernel
theorem dX3_join_0 : decode cX3_join 0 = .ok (.aload_n 0, 1) := by decide +kernel
theorem dX3_join_1 : decode cX3_join 1 = .ok (.iconst 0, 1) := by decide +kernel
theorem dX3_join_2 : decode cX3_join 2 = .ok (.putfield 30, 3) := by decide +kernel
theorem dX3_join_5 : decode cX3_join 5 = .ok (.iload_n 1, 1) := by decide +kernel
theorem dX3_join_6 : decode cX3_join 6 = .ok (.invokestatic 65, 3) := by decide +kernel
theorem dX3_join_9 : decode cX3_join 9 = .ok (.ifCond .eq 30, 3) := by decide +kernel
theorem dX3_join_12 : decode cX3_join 12 = .ok (.iload_n 2, 1) := by decide +kernel
theorem dX3_join_13 : decode cX3_join 13 = .ok (.invokestatic 65, 3) := by decide +kernel
theorem dX3_join_16 : decode cX3_join 16 = .ok (.ifCond .eq 23, 3) := by decide +kernel
theorem dX3_join_19 : decode cX3_join 19 = .ok (.aload_n 0, 1) := by decide +kernel
theorem dX3_join_20 : decode cX3_join 20 = .ok (.iload_n 3, 1) := by decide +kernel
theorem dX3_join_21 : decode cX3_join 21 = .ok (.invokevirtual 100, 3) := by decide +kernel
theorem dX3_join_24 : decode cX3_join 24 = .ok (.ifCond .eq 15, 3) := by decide +kernel
theorem dX3_join_27 : decode cX3_join 27 = .ok (.iload 4, 2) := by decide +kernel
theorem dX3_join_29 : decode cX3_join 29 = .ok (.ifCond .lt 10, 3) := by decide +kernel
theorem dX3_join_32 : decode cX3_join 32 = .ok (.iload 4, 2) := by decide +kernel
theorem dX3_join_34 : decode cX3_join 34 = .ok (.bipush 12, 2) := by decide +kernel
theorem dX3_join_36 : decode cX3_join 36 = .ok (.if_icmp .le 9, 3) := by decide +kernel
theorem dX3_join_39 : decode cX3_join 39 = .ok (.aload_n 0, 1) := by decide +kernel
theorem dX3_join_40 : decode cX3_join 40 = .ok (.iconst 1, 1) := by decide +kernel
theorem dX3_join_41 : decode cX3_join 41 = .ok (.invokevirtual 36, 3) := by decide +kernel
theorem dX3_join_44 : decode cX3_join 44 = .ok (.ireturn, 1) := by decide +kernel
theorem dX3_join_45 : decode cX3_join 45 = .ok (.iconst 0, 1) := by decide +kernel
theorem dX3_join_46 : decode cX3_join 46 = .ok (.istore 5, 2) := by decide +kernel
theorem dX3_join_48 : decode cX3_join 48 = .ok (.iconst 0, 1) := by decide +kernel
theorem dX3_join_49 : decode cX3_join 49 = .ok (.istore 6, 2) := by decide +kernel
theorem dX3_join_51 : decode cX3_join 51 = .ok (.iload 6, 2) := by decide +kernel
theorem dX3_join_53 : decode cX3_join 53 = .ok (.bipush 32, 2) := by decide +kernel
theorem dX3_join_55 : decode cX3_join 55 = .ok (.if_icmp .ge 97, 3) := by decide +kernel
theorem dX3_join_58 : decode cX3_join 58 = .ok (.iconst 0, 1) := by decide +kernel
theorem dX3_join_59 : decode cX3_join 59 = .ok (.istore 7, 2) := by decide +kernel
theorem dX3_join_61 : decode cX3_join 61 = .ok (.iload 7, 2) := by decide +kernel
theorem dX3_join_63 : decode cX3_join 63 = .ok (.bipush 32, 2) := by decide +kernel
theorem dX3_join_65 : decode cX3_join 65 = .ok (.if_icmp .ge 81, 3) := by decide +kernel
theorem dX3_join_68 : decode cX3_join 68 = .ok (.aload_n 0, 1) := by decide +kernel
theorem dX3_join_69 : decode cX3_join 69 = .ok (.iload_n 3, 1) := by decide +kernel
theorem dX3_join_70 : decode cX3_join 70 = .ok (.iload_n 1, 1) := by decide +kernel
theorem dX3_join_71 : decode cX3_join 71 = .ok (.iload 6, 2) := by decide +kernel
theorem dX3_join_73 : decode cX3_join 73 = .ok (.invokevirtual 48, 3) := by decide +kernel
theorem dX3_join_76 : decode cX3_join 76 = .ok (.ifCond .eq 18, 3) := by decide +kernel
theorem dX3_join_79 : decode cX3_join 79 = .ok (.aload_n 0, 1) := by decide +kernel
theorem dX3_join_80 : decode cX3_join 80 = .ok (.iload_n 3, 1) := by decide +kernel
theorem dX3_join_81 : decode cX3_join 81 = .ok (.iload_n 2, 1) := by decide +kernel
theorem dX3_join_82 : decode cX3_join 82 = .ok (.iload 7, 2) := by decide +kernel
theorem dX3_join_84 : decode cX3_join 84 = .ok (.invokevirtual 48, 3) := by decide +kernel
theorem dX3_join_87 : decode cX3_join 87 = .ok (.ifCond .eq 7, 3) := by decide +kernel
theorem dX3_join_90 : decode cX3_join 90 = .ok (.iconst 1, 1) := by decide +kernel
theorem dX3_join_91 : decode cX3_join 91 = .ok (.goto 4, 3) := by decide +kernel
theorem dX3_join_94 : decode cX3_join 94 = .ok (.iconst 0, 1) := by decide +kernel
theorem dX3_join_95 : decode cX3_join 95 = .ok (.istore 8, 2) := by decide +kernel
theorem dX3_join_97 : decode cX3_join 97 = .ok (.iload 5, 2) := by decide +kernel
theorem dX3_join_99 : decode cX3_join 99 = .ok (.iload 8, 2) := by decide +kernel
theorem dX3_join_101 : decode cX3_join 101 = .ok (.ifCond .eq 35, 3) := by decide +kernel
theorem dX3_join_104 : decode cX3_join 104 = .ok (.iload 6, 2) := by decide +kernel
theorem dX3_join_106 : decode cX3_join 106 = .ok (.aload_n 0, 1) := by decide +kernel
theorem dX3_join_107 : decode cX3_join 107 = .ok (.iload_n 3, 1) := by decide +kernel
theorem dX3_join_108 : decode cX3_join 108 = .ok (.iload_n 1, 1) := by decide +kernel
theorem dX3_join_109 : decode cX3_join 109 = .ok (.iload 6, 2) := by decide +kernel
theorem dX3_join_111 : decode cX3_join 111 = .ok (.invokevirtual 52, 3) := by decide +kernel
theorem dX3_join_114 : decode cX3_join 114 = .ok (.iload 7, 2) := by decide +kernel
theorem dX3_join_116 : decode cX3_join 116 = .ok (.aload_n 0, 1) := by decide +kernel
theorem dX3_join_117 : decode cX3_join 117 = .ok (.iload_n 3, 1) := by decide +kernel
theorem dX3_join_118 : decode cX3_join 118 = .ok (.iload_n 2, 1) := by decide +kernel
theorem dX3_join_119 : decode cX3_join 119 = .ok (.iload 7, 2) := by decide +kernel
theorem dX3_join_121 : decode cX3_join 121 = .ok (.invokevirtual 52, 3) := by decide +kernel
theorem dX3_join_124 : decode cX3_join 124 = .ok (.invokestatic 110, 3) := by decide +kernel
theorem dX3_join_127 : decode cX3_join 127 = .ok (.iload 4, 2) := by decide +kernel
theorem dX3_join_129 : decode cX3_join 129 = .ok (.if_icmp .ne 7, 3) := by decide +kernel
theorem dX3_join_132 : decode cX3_join 132 = .ok (.iconst 1, 1) := by decide +kernel
theorem dX3_join_133 : decode cX3_join 133 = .ok (.goto 4, 3) := by decide +kernel
theorem dX3_join_136 : decode cX3_join 136 = .ok (.iconst 0, 1) := by decide +kernel
theorem dX3_join_137 : decode cX3_join 137 = .ok (.iadd, 1) := by decide +kernel
theorem dX3_join_138 : decode cX3_join 138 = .ok (.istore 5, 2) := by decide +kernel
theorem dX3_join_140 : decode cX3_join 140 = .ok (.iinc 7 1, 3) := by decide +kernel
theorem dX3_join_143 : decode cX3_join 143 = .ok (.goto (-82), 3) := by decide +kernel
theorem dX3_join_146 : decode cX3_join 146 = .ok (.iinc 6 1, 3) := by decide +kernel
theorem dX3_join_149 : decode cX3_join 149 = .ok (.goto (-98), 3) := by decide +kernel
theorem dX3_join_152 : decode cX3_join 152 = .ok (.iload 5, 2) := by decide +kernel
theorem dX3_join_154 : decode cX3_join 154 = .ok (.ireturn, 1) := by decide +kernel
