theorem dX3_init_0 : decode cX3_init 0 = .ok (.aload_n 0, 1) := by decide +kernel
theorem dX3_init_1 : decode cX3_init 1 = .ok (.invokespecial 1, 3) := by decide +kernel
theorem dX3_init_4 : decode cX3_init 4 = .ok (.aload_n 0, 1) := by decide +kernel
theorem dX3_init_5 : decode cX3_init 5 = .ok (.sipush 5120, 3) := by decide +kernel
theorem dX3_init_8 : decode cX3_init 8 = .ok (.newarray .boolean, 2) := by decide +kernel
theorem dX3_init_10 : decode cX3_init 10 = .ok (.putfield 7, 3) := by decide +kernel
theorem dX3_init_13 : decode cX3_init 13 = .ok (.aload_n 0, 1) := by decide +kernel
theorem dX3_init_14 : decode cX3_init 14 = .ok (.sipush 5120, 3) := by decide +kernel
theorem dX3_init_17 : decode cX3_init 17 = .ok (.newarray .int, 2) := by decide +kernel
theorem dX3_init_19 : decode cX3_init 19 = .ok (.putfield 13, 3) := by decide +kernel
theorem dX3_init_22 : decode cX3_init 22 = .ok (.aload_n 0, 1) := by decide +kernel
theorem dX3_init_23 : decode cX3_init 23 = .ok (.sipush 128, 3) := by decide +kernel
theorem dX3_init_26 : decode cX3_init 26 = .ok (.newarray .boolean, 2) := by decide +kernel
theorem dX3_init_28 : decode cX3_init 28 = .ok (.putfield 17, 3) := by decide +kernel
theorem dX3_init_31 : decode cX3_init 31 = .ok (.aload_n 0, 1) := by decide +kernel
theorem dX3_init_32 : decode cX3_init 32 = .ok (.sipush 128, 3) := by decide +kernel
theorem dX3_init_35 : decode cX3_init 35 = .ok (.newarray .int, 2) := by decide +kernel
theorem dX3_init_37 : decode cX3_init 37 = .ok (.putfield 20, 3) := by decide +kernel
theorem dX3_init_40 : decode cX3_init 40 = .ok (.aload_n 0, 1) := by decide +kernel
theorem dX3_init_41 : decode cX3_init 41 = .ok (.bipush 40, 2) := by decide +kernel
theorem dX3_init_43 : decode cX3_init 43 = .ok (.newarray .int, 2) := by decide +kernel
theorem dX3_init_45 : decode cX3_init 45 = .ok (.putfield 23, 3) := by decide +kernel
theorem dX3_init_48 : decode cX3_init 48 = .ok (.aload_n 0, 1) := by decide +kernel
theorem dX3_init_49 : decode cX3_init 49 = .ok (.iconst (-1), 1) := by decide +kernel
theorem dX3_init_50 : decode cX3_init 50 = .ok (.putfield 26, 3) := by decide +kernel
theorem dX3_init_53 : decode cX3_init 53 = .ok (.return_, 1) := by decide +kernel
theorem dX3_thrown_0 : decode cX3_thrown 0 = .ok (.aload_n 0, 1) := by decide +kernel
theorem dX3_thrown_1 : decode cX3_thrown 1 = .ok (.getfield 30, 3) := by decide +kernel
theorem dX3_thrown_4 : decode cX3_thrown 4 = .ok (.ireturn, 1) := by decide +kernel
theorem dX3_fail_0 : decode cX3_fail 0 = .ok (.aload_n 0, 1) := by decide +kernel
theorem dX3_fail_1 : decode cX3_fail 1 = .ok (.iload_n 1, 1) := by decide +kernel
theorem dX3_fail_2 : decode cX3_fail 2 = .ok (.putfield 30, 3) := by decide +kernel
theorem dX3_fail_5 : decode cX3_fail 5 = .ok (.iconst 0, 1) := by decide +kernel
theorem dX3_fail_6 : decode cX3_fail 6 = .ok (.ireturn, 1) := by decide +kernel
theorem dX3_isKey_0 : decode cX3_isKey 0 = .ok (.iload_n 0, 1) := by decide +kernel
theorem dX3_isKey_1 : decode cX3_isKey 1 = .ok (.ifCond .lt 12, 3) := by decide +kernel
theorem dX3_isKey_4 : decode cX3_isKey 4 = .ok (.iload_n 0, 1) := by decide +kernel
theorem dX3_isKey_5 : decode cX3_isKey 5 = .ok (.iconst 3, 1) := by decide +kernel
theorem dX3_isKey_6 : decode cX3_isKey 6 = .ok (.if_icmp .gt 7, 3) := by decide +kernel
theorem dX3_isKey_9 : decode cX3_isKey 9 = .ok (.iconst 1, 1) := by decide +kernel
theorem dX3_isKey_10 : decode cX3_isKey 10 = .ok (.goto 4, 3) := by decide +kernel
theorem dX3_isKey_13 : decode cX3_isKey 13 = .ok (.iconst 0, 1) := by decide +kernel
theorem dX3_isKey_14 : decode cX3_isKey 14 = .ok (.ireturn, 1) := by decide +kernel
theorem dX3_isPeriod_0 : decode cX3_isPeriod 0 = .ok (.iload_n 0, 1) := by decide +kernel
theorem dX3_isPeriod_1 : decode cX3_isPeriod 1 = .ok (.ifCond .lt 18, 3) := by decide +kernel
theorem dX3_isPeriod_4 : decode cX3_isPeriod 4 = .ok (.iload_n 0, 1) := by decide +kernel
theorem dX3_isPeriod_5 : decode cX3_isPeriod 5 = .ok (.iload_n 1, 1) := by decide +kernel
theorem dX3_isPeriod_6 : decode cX3_isPeriod 6 = .ok (.if_icmp .ge 13, 3) := by decide +kernel
theorem dX3_isPeriod_9 : decode cX3_isPeriod 9 = .ok (.iload_n 1, 1) := by decide +kernel
theorem dX3_isPeriod_10 : decode cX3_isPeriod 10 = .ok (.bipush 32, 2) := by decide +kernel
theorem dX3_isPeriod_12 : decode cX3_isPeriod 12 = .ok (.if_icmp .gt 7, 3) := by decide +kernel
theorem dX3_isPeriod_15 : decode cX3_isPeriod 15 = .ok (.iconst 1, 1) := by decide +kernel
theorem dX3_isPeriod_16 : decode cX3_isPeriod 16 = .ok (.goto 4, 3) := by decide +kernel
theorem dX3_isPeriod_19 : decode cX3_isPeriod 19 = .ok (.iconst 0, 1) := by decide +kernel
theorem dX3_isPeriod_20 : decode cX3_isPeriod 20 = .ok (.ireturn, 1) := by decide +kernel
theorem dX3_isTime_0 : decode cX3_isTime 0 = .ok (.iload_n 1, 1) := by decide +kernel
theorem dX3_isTime_1 : decode cX3_isTime 1 = .ok (.ifCond .lt 15, 3) := by decide +kernel
theorem dX3_isTime_4 : decode cX3_isTime 4 = .ok (.iload_n 1, 1) := by decide +kernel
theorem dX3_isTime_5 : decode cX3_isTime 5 = .ok (.aload_n 0, 1) := by decide +kernel
theorem dX3_isTime_6 : decode cX3_isTime 6 = .ok (.getfield 33, 3) := by decide +kernel
theorem dX3_isTime_9 : decode cX3_isTime 9 = .ok (.if_icmp .gt 7, 3) := by decide +kernel
theorem dX3_isTime_12 : decode cX3_isTime 12 = .ok (.iconst 1, 1) := by decide +kernel
theorem dX3_isTime_13 : decode cX3_isTime 13 = .ok (.goto 4, 3) := by decide +kernel
theorem dX3_isTime_16 : decode cX3_isTime 16 = .ok (.iconst 0, 1) := by decide +kernel
theorem dX3_isTime_17 : decode cX3_isTime 17 = .ok (.ireturn, 1) := by decide +kernel
theorem dX3_place_0 : decode cX3_place 0 = .ok (.sipush 128, 3) := by decide +kernel
theorem dX3_place_3 : decode cX3_place 3 = .ok (.iload_n 0, 1) := by decide +kernel
theorem dX3_place_4 : decode cX3_place 4 = .ok (.imul, 1) := by decide +kernel
theorem dX3_place_5 : decode cX3_place 5 = .ok (.bipush 32, 2) := by decide +kernel
theorem dX3_place_7 : decode cX3_place 7 = .ok (.iload_n 1, 1) := by decide +kernel
theorem dX3_place_8 : decode cX3_place 8 = .ok (.imul, 1) := by decide +kernel
theorem dX3_place_9 : decode cX3_place 9 = .ok (.iadd, 1) := by decide +kernel
theorem dX3_place_10 : decode cX3_place 10 = .ok (.iload_n 2, 1) := by decide +kernel
theorem dX3_place_11 : decode cX3_place 11 = .ok (.iadd, 1) := by decide +kernel
theorem dX3_place_12 : decode cX3_place 12 = .ok (.ireturn, 1) := by decide +kernel
theorem dX3_tick_0 : decode cX3_tick 0 = .ok (.aload_n 0, 1) := by decide +kernel
theorem dX3_tick_1 : decode cX3_tick 1 = .ok (.getfield 33, 3) := by decide +kernel
theorem dX3_tick_4 : decode cX3_tick 4 = .ok (.bipush 39, 2) := by decide +kernel
theorem dX3_tick_6 : decode cX3_tick 6 = .ok (.if_icmp .ne 9, 3) := by decide +kernel
theorem dX3_tick_9 : decode cX3_tick 9 = .ok (.aload_n 0, 1) := by decide +kernel
theorem dX3_tick_10 : decode cX3_tick 10 = .ok (.iconst 1, 1) := by decide +kernel
theorem dX3_tick_11 : decode cX3_tick 11 = .ok (.invokevirtual 36, 3) := by decide +kernel
theorem dX3_tick_14 : decode cX3_tick 14 = .ok (.ireturn, 1) := by decide +kernel
theorem dX3_tick_15 : decode cX3_tick 15 = .ok (.aload_n 0, 1) := by decide +kernel
theorem dX3_tick_16 : decode cX3_tick 16 = .ok (.iconst 0, 1) := by decide +kernel
theorem dX3_tick_17 : decode cX3_tick 17 = .ok (.putfield 30, 3) := by decide +kernel
theorem dX3_tick_20 : decode cX3_tick 20 = .ok (.iconst 0, 1) := by decide +kernel
theorem dX3_tick_21 : decode cX3_tick 21 = .ok (.istore_n 1, 1) := by decide +kernel
theorem dX3_tick_22 : decode cX3_tick 22 = .ok (.iload_n 1, 1) := by decide +kernel
theorem dX3_tick_23 : decode cX3_tick 23 = .ok (.sipush 128, 3) := by decide +kernel
theorem dX3_tick_26 : decode cX3_tick 26 = .ok (.if_icmp .ge 77, 3) := by decide +kernel
theorem dX3_tick_29 : decode cX3_tick 29 = .ok (.aload_n 0, 1) := by decide +kernel
theorem dX3_tick_30 : decode cX3_tick 30 = .ok (.getfield 7, 3) := by decide +kernel
theorem dX3_tick_33 : decode cX3_tick 33 = .ok (.sipush 128, 3) := by decide +kernel
theorem dX3_tick_36 : decode cX3_tick 36 = .ok (.aload_n 0, 1) := by decide +kernel
theorem dX3_tick_37 : decode cX3_tick 37 = .ok (.getfield 33, 3) := by decide +kernel
theorem dX3_tick_40 : decode cX3_tick 40 = .ok (.imul, 1) := by decide +kernel
theorem dX3_tick_41 : decode cX3_tick 41 = .ok (.sipush 128, 3) := by decide +kernel
theorem dX3_tick_44 : decode cX3_tick 44 = .ok (.iadd, 1) := by decide +kernel
theorem dX3_tick_45 : decode cX3_tick 45 = .ok (.iload_n 1, 1) := by decide +kernel
theorem dX3_tick_46 : decode cX3_tick 46 = .ok (.iadd, 1) := by decide +kernel
theorem dX3_tick_47 : decode cX3_tick 47 = .ok (.aload_n 0, 1) := by decide +kernel
theorem dX3_tick_48 : decode cX3_tick 48 = .ok (.getfield 7, 3) := by decide +kernel
theorem dX3_tick_51 : decode cX3_tick 51 = .ok (.sipush 128, 3) := by decide +kernel
theorem dX3_tick_54 : decode cX3_tick 54 = .ok (.aload_n 0, 1) := by decide +kernel
theorem dX3_tick_55 : decode cX3_tick 55 = .ok (.getfield 33, 3) := by decide +kernel
theorem dX3_tick_58 : decode cX3_tick 58 = .ok (.imul, 1) := by decide +kernel
theorem dX3_tick_59 : decode cX3_tick 59 = .ok (.iload_n 1, 1) := by decide +kernel
theorem dX3_tick_60 : decode cX3_tick 60 = .ok (.iadd, 1) := by decide +kernel
theorem dX3_tick_61 : decode cX3_tick 61 = .ok (.baload, 1) := by decide +kernel
theorem dX3_tick_62 : decode cX3_tick 62 = .ok (.bastore, 1) := by decide +kernel
theorem dX3_tick_63 : decode cX3_tick 63 = .ok (.aload_n 0, 1) := by decide +kernel
theorem dX3_tick_64 : decode cX3_tick 64 = .ok (.getfield 13, 3) := by decide +kernel
theorem dX3_tick_67 : decode cX3_tick 67 = .ok (.sipush 128, 3) := by decide +kernel
theorem dX3_tick_70 : decode cX3_tick 70 = .ok (.aload_n 0, 1) := by decide +kernel
theorem dX3_tick_71 : decode cX3_tick 71 = .ok (.getfield 33, 3) := by decide +kernel
theorem dX3_tick_74 : decode cX3_tick 74 = .ok (.imul, 1) := by decide +kernel
theorem dX3_tick_75 : decode cX3_tick 75 = .ok (.sipush 128, 3) := by decide +kernel
theorem dX3_tick_78 : decode cX3_tick 78 = .ok (.iadd, 1) := by decide +kernel
theorem dX3_tick_79 : decode cX3_tick 79 = .ok (.iload_n 1, 1) := by decide +kernel
theorem dX3_tick_80 : decode cX3_tick 80 = .ok (.iadd, 1) := by decide +kernel
theorem dX3_tick_81 : decode cX3_tick 81 = .ok (.aload_n 0, 1) := by decide +kernel
theorem dX3_tick_82 : decode cX3_tick 82 = .ok (.getfield 13, 3) := by decide +kernel
theorem dX3_tick_85 : decode cX3_tick 85 = .ok (.sipush 128, 3) := by decide +kernel
theorem dX3_tick_88 : decode cX3_tick 88 = .ok (.aload_n 0, 1) := by decide +kernel
theorem dX3_tick_89 : decode cX3_tick 89 = .ok (.getfield 33, 3) := by decide +kernel
theorem dX3_tick_92 : decode cX3_tick 92 = .ok (.imul, 1) := by decide +kernel
theorem dX3_tick_93 : decode cX3_tick 93 = .ok (.iload_n 1, 1) := by decide +kernel
theorem dX3_tick_94 : decode cX3_tick 94 = .ok (.iadd, 1) := by decide +kernel
theorem dX3_tick_95 : decode cX3_tick 95 = .ok (.iaload, 1) := by decide +kernel
theorem dX3_tick_96 : decode cX3_tick 96 = .ok (.iastore, 1) := by decide +kernel
theorem dX3_tick_97 : decode cX3_tick 97 = .ok (.iinc 1 1, 3) := by decide +kernel
theorem dX3_tick_100 : decode cX3_tick 100 = .ok (.goto (-78), 3) := by decide +kernel
theorem dX3_tick_103 : decode cX3_tick 103 = .ok (.aload_n 0, 1) := by decide +kernel
theorem dX3_tick_104 : decode cX3_tick 104 = .ok (.dup, 1) := by decide +kernel
theorem dX3_tick_105 : decode cX3_tick 105 = .ok (.getfield 33, 3) := by decide +kernel
theorem dX3_tick_108 : decode cX3_tick 108 = .ok (.iconst 1, 1) := by decide +kernel
theorem dX3_tick_109 : decode cX3_tick 109 = .ok (.iadd, 1) := by decide +kernel
theorem dX3_tick_110 : decode cX3_tick 110 = .ok (.putfield 33, 3) := by decide +kernel
theorem dX3_tick_113 : decode cX3_tick 113 = .ok (.aload_n 0, 1) := by decide +kernel
theorem dX3_tick_114 : decode cX3_tick 114 = .ok (.getfield 33, 3) := by decide +kernel
theorem dX3_tick_117 : decode cX3_tick 117 = .ok (.ireturn, 1) := by decide +kernel
theorem dX3_clock_0 : decode cX3_clock 0 = .ok (.aload_n 0, 1) := by decide +kernel
theorem dX3_clock_1 : decode cX3_clock 1 = .ok (.iconst 0, 1) := by decide +kernel
theorem dX3_clock_2 : decode cX3_clock 2 = .ok (.putfield 30, 3) := by decide +kernel
theorem dX3_clock_5 : decode cX3_clock 5 = .ok (.aload_n 0, 1) := by decide +kernel
theorem dX3_clock_6 : decode cX3_clock 6 = .ok (.getfield 33, 3) := by decide +kernel
theorem dX3_clock_9 : decode cX3_clock 9 = .ok (.ireturn, 1) := by decide +kernel
theorem dX3_alike_0 : decode cX3_alike 0 = .ok (.iload_n 1, 1) := by decide +kernel
theorem dX3_alike_1 : decode cX3_alike 1 = .ok (.iload_n 2, 1) := by decide +kernel
theorem dX3_alike_2 : decode cX3_alike 2 = .ok (.iload_n 3, 1) := by decide +kernel
theorem dX3_alike_3 : decode cX3_alike 3 = .ok (.invokestatic 40, 3) := by decide +kernel
theorem dX3_alike_6 : decode cX3_alike 6 = .ok (.istore 5, 2) := by decide +kernel
theorem dX3_alike_8 : decode cX3_alike 8 = .ok (.iload_n 1, 1) := by decide +kernel
theorem dX3_alike_9 : decode cX3_alike 9 = .ok (.iload_n 2, 1) := by decide +kernel
theorem dX3_alike_10 : decode cX3_alike 10 = .ok (.iload 4, 2) := by decide +kernel
theorem dX3_alike_12 : decode cX3_alike 12 = .ok (.invokestatic 40, 3) := by decide +kernel
theorem dX3_alike_15 : decode cX3_alike 15 = .ok (.istore 6, 2) := by decide +kernel
theorem dX3_alike_17 : decode cX3_alike 17 = .ok (.aload_n 0, 1) := by decide +kernel
theorem dX3_alike_18 : decode cX3_alike 18 = .ok (.getfield 7, 3) := by decide +kernel
theorem dX3_alike_21 : decode cX3_alike 21 = .ok (.iload 5, 2) := by decide +kernel
theorem dX3_alike_23 : decode cX3_alike 23 = .ok (.baload, 1) := by decide +kernel
theorem dX3_alike_24 : decode cX3_alike 24 = .ok (.ifCond .eq 34, 3) := by decide +kernel
theorem dX3_alike_27 : decode cX3_alike 27 = .ok (.aload_n 0, 1) := by decide +kernel
theorem dX3_alike_28 : decode cX3_alike 28 = .ok (.getfield 7, 3) := by decide +kernel
theorem dX3_alike_31 : decode cX3_alike 31 = .ok (.iload 6, 2) := by decide +kernel
theorem dX3_alike_33 : decode cX3_alike 33 = .ok (.baload, 1) := by decide +kernel
theorem dX3_alike_34 : decode cX3_alike 34 = .ok (.ifCond .eq 24, 3) := by decide +kernel
theorem dX3_alike_37 : decode cX3_alike 37 = .ok (.aload_n 0, 1) := by decide +kernel
theorem dX3_alike_38 : decode cX3_alike 38 = .ok (.getfield 13, 3) := by decide +kernel
theorem dX3_alike_41 : decode cX3_alike 41 = .ok (.iload 5, 2) := by decide +kernel
theorem dX3_alike_43 : decode cX3_alike 43 = .ok (.iaload, 1) := by decide +kernel
theorem dX3_alike_44 : decode cX3_alike 44 = .ok (.aload_n 0, 1) := by decide +kernel
theorem dX3_alike_45 : decode cX3_alike 45 = .ok (.getfield 13, 3) := by decide +kernel
theorem dX3_alike_48 : decode cX3_alike 48 = .ok (.iload 6, 2) := by decide +kernel
theorem dX3_alike_50 : decode cX3_alike 50 = .ok (.iaload, 1) := by decide +kernel
theorem dX3_alike_51 : decode cX3_alike 51 = .ok (.if_icmp .ne 7, 3) := by decide +kernel
theorem dX3_alike_54 : decode cX3_alike 54 = .ok (.iconst 1, 1) := by decide +kernel
theorem dX3_alike_55 : decode cX3_alike 55 = .ok (.goto 4, 3) := by decide +kernel
theorem dX3_alike_58 : decode cX3_alike 58 = .ok (.iconst 0, 1) := by decide +kernel
theorem dX3_alike_59 : decode cX3_alike 59 = .ok (.ireturn, 1) := by decide +kernel
theorem dX3_begins_0 : decode cX3_begins 0 = .ok (.aload_n 0, 1) := by decide +kernel
theorem dX3_begins_1 : decode cX3_begins 1 = .ok (.getfield 7, 3) := by decide +kernel
theorem dX3_begins_4 : decode cX3_begins 4 = .ok (.iload_n 1, 1) := by decide +kernel
theorem dX3_begins_5 : decode cX3_begins 5 = .ok (.iload_n 2, 1) := by decide +kernel
theorem dX3_begins_6 : decode cX3_begins 6 = .ok (.iload_n 3, 1) := by decide +kernel
theorem dX3_begins_7 : decode cX3_begins 7 = .ok (.invokestatic 40, 3) := by decide +kernel
theorem dX3_begins_10 : decode cX3_begins 10 = .ok (.baload, 1) := by decide +kernel
theorem dX3_begins_11 : decode cX3_begins 11 = .ok (.ifCond .eq 24, 3) := by decide +kernel
theorem dX3_begins_14 : decode cX3_begins 14 = .ok (.iload_n 3, 1) := by decide +kernel
theorem dX3_begins_15 : decode cX3_begins 15 = .ok (.ifCond .eq 16, 3) := by decide +kernel
theorem dX3_begins_18 : decode cX3_begins 18 = .ok (.aload_n 0, 1) := by decide +kernel
theorem dX3_begins_19 : decode cX3_begins 19 = .ok (.iload_n 1, 1) := by decide +kernel
theorem dX3_begins_20 : decode cX3_begins 20 = .ok (.iload_n 2, 1) := by decide +kernel
theorem dX3_begins_21 : decode cX3_begins 21 = .ok (.iload_n 3, 1) := by decide +kernel
theorem dX3_begins_22 : decode cX3_begins 22 = .ok (.iconst 1, 1) := by decide +kernel
theorem dX3_begins_23 : decode cX3_begins 23 = .ok (.isub, 1) := by decide +kernel
theorem dX3_begins_24 : decode cX3_begins 24 = .ok (.iload_n 3, 1) := by decide +kernel
theorem dX3_begins_25 : decode cX3_begins 25 = .ok (.invokevirtual 44, 3) := by decide +kernel
theorem dX3_begins_28 : decode cX3_begins 28 = .ok (.ifCond .ne 7, 3) := by decide +kernel
theorem dX3_begins_31 : decode cX3_begins 31 = .ok (.iconst 1, 1) := by decide +kernel
theorem dX3_begins_32 : decode cX3_begins 32 = .ok (.goto 4, 3) := by decide +kernel
theorem dX3_begins_35 : decode cX3_begins 35 = .ok (.iconst 0, 1) := by decide +kernel
theorem dX3_begins_36 : decode cX3_begins 36 = .ok (.ireturn, 1) := by decide +kernel
theorem dX3_endOf_0 : decode cX3_endOf 0 = .ok (.iload_n 3, 1) := by decide +kernel
theorem dX3_endOf_1 : decode cX3_endOf 1 = .ok (.iconst 1, 1) := by decide +kernel
theorem dX3_endOf_2 : decode cX3_endOf 2 = .ok (.iadd, 1) := by decide +kernel
theorem dX3_endOf_3 : decode cX3_endOf 3 = .ok (.istore 4, 2) := by decide +kernel
theorem dX3_endOf_5 : decode cX3_endOf 5 = .ok (.iload 4, 2) := by decide +kernel
theorem dX3_endOf_7 : decode cX3_endOf 7 = .ok (.bipush 32, 2) := by decide +kernel
theorem dX3_endOf_9 : decode cX3_endOf 9 = .ok (.if_icmp .ge 21, 3) := by decide +kernel
theorem dX3_endOf_12 : decode cX3_endOf 12 = .ok (.aload_n 0, 1) := by decide +kernel
theorem dX3_endOf_13 : decode cX3_endOf 13 = .ok (.iload_n 1, 1) := by decide +kernel
theorem dX3_endOf_14 : decode cX3_endOf 14 = .ok (.iload_n 2, 1) := by decide +kernel
theorem dX3_endOf_15 : decode cX3_endOf 15 = .ok (.iload_n 3, 1) := by decide +kernel
theorem dX3_endOf_16 : decode cX3_endOf 16 = .ok (.iload 4, 2) := by decide +kernel
theorem dX3_endOf_18 : decode cX3_endOf 18 = .ok (.invokevirtual 44, 3) := by decide +kernel
theorem dX3_endOf_21 : decode cX3_endOf 21 = .ok (.ifCond .eq 9, 3) := by decide +kernel
theorem dX3_endOf_24 : decode cX3_endOf 24 = .ok (.iinc 4 1, 3) := by decide +kernel
theorem dX3_endOf_27 : decode cX3_endOf 27 = .ok (.goto (-22), 3) := by decide +kernel
theorem dX3_endOf_30 : decode cX3_endOf 30 = .ok (.iload 4, 2) := by decide +kernel
theorem dX3_endOf_32 : decode cX3_endOf 32 = .ok (.ireturn, 1) := by decide +kernel
theorem dX3_isRun_0 : decode cX3_isRun 0 = .ok (.aload_n 0, 1) := by decide +kernel
theorem dX3_isRun_1 : decode cX3_isRun 1 = .ok (.iload_n 1, 1) := by decide +kernel
theorem dX3_isRun_2 : decode cX3_isRun 2 = .ok (.iload_n 2, 1) := by decide +kernel
theorem dX3_isRun_3 : decode cX3_isRun 3 = .ok (.iload_n 3, 1) := by decide +kernel
theorem dX3_isRun_4 : decode cX3_isRun 4 = .ok (.invokevirtual 48, 3) := by decide +kernel
theorem dX3_isRun_7 : decode cX3_isRun 7 = .ok (.ifCond .eq 35, 3) := by decide +kernel
theorem dX3_isRun_10 : decode cX3_isRun 10 = .ok (.aload_n 0, 1) := by decide +kernel
theorem dX3_isRun_11 : decode cX3_isRun 11 = .ok (.iload_n 1, 1) := by decide +kernel
theorem dX3_isRun_12 : decode cX3_isRun 12 = .ok (.iload_n 2, 1) := by decide +kernel
theorem dX3_isRun_13 : decode cX3_isRun 13 = .ok (.iload_n 3, 1) := by decide +kernel
theorem dX3_isRun_14 : decode cX3_isRun 14 = .ok (.invokevirtual 52, 3) := by decide +kernel
theorem dX3_isRun_17 : decode cX3_isRun 17 = .ok (.iload 4, 2) := by decide +kernel
theorem dX3_isRun_19 : decode cX3_isRun 19 = .ok (.if_icmp .ne 23, 3) := by decide +kernel
theorem dX3_isRun_22 : decode cX3_isRun 22 = .ok (.aload_n 0, 1) := by decide +kernel
theorem dX3_isRun_23 : decode cX3_isRun 23 = .ok (.getfield 13, 3) := by decide +kernel
theorem dX3_isRun_26 : decode cX3_isRun 26 = .ok (.iload_n 1, 1) := by decide +kernel
theorem dX3_isRun_27 : decode cX3_isRun 27 = .ok (.iload_n 2, 1) := by decide +kernel
theorem dX3_isRun_28 : decode cX3_isRun 28 = .ok (.iload_n 3, 1) := by decide +kernel
theorem dX3_isRun_29 : decode cX3_isRun 29 = .ok (.invokestatic 40, 3) := by decide +kernel
theorem dX3_isRun_32 : decode cX3_isRun 32 = .ok (.iaload, 1) := by decide +kernel
theorem dX3_isRun_33 : decode cX3_isRun 33 = .ok (.iload 5, 2) := by decide +kernel
theorem dX3_isRun_35 : decode cX3_isRun 35 = .ok (.if_icmp .ne 7, 3) := by decide +kernel
theorem dX3_isRun_38 : decode cX3_isRun 38 = .ok (.iconst 1, 1) := by decide +kernel
theorem dX3_isRun_39 : decode cX3_isRun 39 = .ok (.goto 4, 3) := by decide +kernel
theorem dX3_isRun_42 : decode cX3_isRun 42 = .ok (.iconst 0, 1) := by decide +kernel
theorem dX3_isRun_43 : decode cX3_isRun 43 = .ok (.ireturn, 1) := by decide +kernel
theorem dX3_isRow_0 : decode cX3_isRow 0 = .ok (.aload_n 0, 1) := by decide +kernel
theorem dX3_isRow_1 : decode cX3_isRow 1 = .ok (.iload_n 1, 1) := by decide +kernel
theorem dX3_isRow_2 : decode cX3_isRow 2 = .ok (.iload_n 2, 1) := by decide +kernel
theorem dX3_isRow_3 : decode cX3_isRow 3 = .ok (.iload_n 3, 1) := by decide +kernel
theorem dX3_isRow_4 : decode cX3_isRow 4 = .ok (.invokevirtual 48, 3) := by decide +kernel
theorem dX3_isRow_7 : decode cX3_isRow 7 = .ok (.ifCond .ne 5, 3) := by decide +kernel
theorem dX3_isRow_10 : decode cX3_isRow 10 = .ok (.iconst 0, 1) := by decide +kernel
theorem dX3_isRow_11 : decode cX3_isRow 11 = .ok (.ireturn, 1) := by decide +kernel
theorem dX3_isRow_12 : decode cX3_isRow 12 = .ok (.iload_n 1, 1) := by decide +kernel
theorem dX3_isRow_13 : decode cX3_isRow 13 = .ok (.ifCond .eq 33, 3) := by decide +kernel
theorem dX3_isRow_16 : decode cX3_isRow 16 = .ok (.aload_n 0, 1) := by decide +kernel
theorem dX3_isRow_17 : decode cX3_isRow 17 = .ok (.iload_n 1, 1) := by decide +kernel
theorem dX3_isRow_18 : decode cX3_isRow 18 = .ok (.iconst 1, 1) := by decide +kernel
theorem dX3_isRow_19 : decode cX3_isRow 19 = .ok (.isub, 1) := by decide +kernel
theorem dX3_isRow_20 : decode cX3_isRow 20 = .ok (.iload_n 2, 1) := by decide +kernel
theorem dX3_isRow_21 : decode cX3_isRow 21 = .ok (.iload_n 3, 1) := by decide +kernel
theorem dX3_isRow_22 : decode cX3_isRow 22 = .ok (.aload_n 0, 1) := by decide +kernel
theorem dX3_isRow_23 : decode cX3_isRow 23 = .ok (.iload_n 1, 1) := by decide +kernel
theorem dX3_isRow_24 : decode cX3_isRow 24 = .ok (.iload_n 2, 1) := by decide +kernel
theorem dX3_isRow_25 : decode cX3_isRow 25 = .ok (.iload_n 3, 1) := by decide +kernel
theorem dX3_isRow_26 : decode cX3_isRow 26 = .ok (.invokevirtual 52, 3) := by decide +kernel
theorem dX3_isRow_29 : decode cX3_isRow 29 = .ok (.aload_n 0, 1) := by decide +kernel
theorem dX3_isRow_30 : decode cX3_isRow 30 = .ok (.getfield 13, 3) := by decide +kernel
theorem dX3_isRow_33 : decode cX3_isRow 33 = .ok (.iload_n 1, 1) := by decide +kernel
theorem dX3_isRow_34 : decode cX3_isRow 34 = .ok (.iload_n 2, 1) := by decide +kernel
theorem dX3_isRow_35 : decode cX3_isRow 35 = .ok (.iload_n 3, 1) := by decide +kernel
theorem dX3_isRow_36 : decode cX3_isRow 36 = .ok (.invokestatic 40, 3) := by decide +kernel
theorem dX3_isRow_39 : decode cX3_isRow 39 = .ok (.iaload, 1) := by decide +kernel
theorem dX3_isRow_40 : decode cX3_isRow 40 = .ok (.invokevirtual 55, 3) := by decide +kernel
theorem dX3_isRow_43 : decode cX3_isRow 43 = .ok (.ifCond .ne 7, 3) := by decide +kernel
theorem dX3_isRow_46 : decode cX3_isRow 46 = .ok (.iconst 1, 1) := by decide +kernel
theorem dX3_isRow_47 : decode cX3_isRow 47 = .ok (.goto 4, 3) := by decide +kernel
theorem dX3_isRow_50 : decode cX3_isRow 50 = .ok (.iconst 0, 1) := by decide +kernel
theorem dX3_isRow_51 : decode cX3_isRow 51 = .ok (.ireturn, 1) := by decide +kernel
theorem dX3_countRows_0 : decode cX3_countRows 0 = .ok (.iconst 0, 1) := by decide +kernel
theorem dX3_countRows_1 : decode cX3_countRows 1 = .ok (.istore_n 1, 1) := by decide +kernel
theorem dX3_countRows_2 : decode cX3_countRows 2 = .ok (.iconst 0, 1) := by decide +kernel
theorem dX3_countRows_3 : decode cX3_countRows 3 = .ok (.istore_n 2, 1) := by decide +kernel
theorem dX3_countRows_4 : decode cX3_countRows 4 = .ok (.iload_n 2, 1) := by decide +kernel
theorem dX3_countRows_5 : decode cX3_countRows 5 = .ok (.iconst 4, 1) := by decide +kernel
theorem dX3_countRows_6 : decode cX3_countRows 6 = .ok (.if_icmp .ge 60, 3) := by decide +kernel
theorem dX3_countRows_9 : decode cX3_countRows 9 = .ok (.iconst 0, 1) := by decide +kernel
theorem dX3_countRows_10 : decode cX3_countRows 10 = .ok (.istore_n 3, 1) := by decide +kernel
theorem dX3_countRows_11 : decode cX3_countRows 11 = .ok (.iload_n 3, 1) := by decide +kernel
theorem dX3_countRows_12 : decode cX3_countRows 12 = .ok (.aload_n 0, 1) := by decide +kernel
theorem dX3_countRows_13 : decode cX3_countRows 13 = .ok (.getfield 33, 3) := by decide +kernel
theorem dX3_countRows_16 : decode cX3_countRows 16 = .ok (.if_icmp .gt 44, 3) := by decide +kernel
theorem dX3_countRows_19 : decode cX3_countRows 19 = .ok (.iconst 0, 1) := by decide +kernel
theorem dX3_countRows_20 : decode cX3_countRows 20 = .ok (.istore 4, 2) := by decide +kernel
theorem dX3_countRows_22 : decode cX3_countRows 22 = .ok (.iload 4, 2) := by decide +kernel
theorem dX3_countRows_24 : decode cX3_countRows 24 = .ok (.bipush 32, 2) := by decide +kernel
theorem dX3_countRows_26 : decode cX3_countRows 26 = .ok (.if_icmp .ge 28, 3) := by decide +kernel
theorem dX3_countRows_29 : decode cX3_countRows 29 = .ok (.iload_n 1, 1) := by decide +kernel
theorem dX3_countRows_30 : decode cX3_countRows 30 = .ok (.aload_n 0, 1) := by decide +kernel
theorem dX3_countRows_31 : decode cX3_countRows 31 = .ok (.iload_n 3, 1) := by decide +kernel
theorem dX3_countRows_32 : decode cX3_countRows 32 = .ok (.iload_n 2, 1) := by decide +kernel
theorem dX3_countRows_33 : decode cX3_countRows 33 = .ok (.iload 4, 2) := by decide +kernel
theorem dX3_countRows_35 : decode cX3_countRows 35 = .ok (.invokevirtual 59, 3) := by decide +kernel
theorem dX3_countRows_38 : decode cX3_countRows 38 = .ok (.ifCond .eq 7, 3) := by decide +kernel
theorem dX3_countRows_41 : decode cX3_countRows 41 = .ok (.iconst 1, 1) := by decide +kernel
theorem dX3_countRows_42 : decode cX3_countRows 42 = .ok (.goto 4, 3) := by decide +kernel
theorem dX3_countRows_45 : decode cX3_countRows 45 = .ok (.iconst 0, 1) := by decide +kernel
theorem dX3_countRows_46 : decode cX3_countRows 46 = .ok (.iadd, 1) := by decide +kernel
theorem dX3_countRows_47 : decode cX3_countRows 47 = .ok (.istore_n 1, 1) := by decide +kernel
theorem dX3_countRows_48 : decode cX3_countRows 48 = .ok (.iinc 4 1, 3) := by decide +kernel
theorem dX3_countRows_51 : decode cX3_countRows 51 = .ok (.goto (-29), 3) := by decide +kernel
theorem dX3_countRows_54 : decode cX3_countRows 54 = .ok (.iinc 3 1, 3) := by decide +kernel
theorem dX3_countRows_57 : decode cX3_countRows 57 = .ok (.goto (-46), 3) := by decide +kernel
theorem dX3_countRows_60 : decode cX3_countRows 60 = .ok (.iinc 2 1, 3) := by decide +kernel
theorem dX3_countRows_63 : decode cX3_countRows 63 = .ok (.goto (-59), 3) := by decide +kernel
theorem dX3_countRows_66 : decode cX3_countRows 66 = .ok (.iload_n 1, 1) := by decide +kernel
theorem dX3_countRows_67 : decode cX3_countRows 67 = .ok (.ireturn, 1) := by decide +kernel
theorem dX3_keep_0 : decode cX3_keep 0 = .ok (.iconst 0, 1) := by decide +kernel
theorem dX3_keep_1 : decode cX3_keep 1 = .ok (.istore_n 1, 1) := by decide +kernel
theorem dX3_keep_2 : decode cX3_keep 2 = .ok (.iload_n 1, 1) := by decide +kernel
theorem dX3_keep_3 : decode cX3_keep 3 = .ok (.sipush 128, 3) := by decide +kernel
theorem dX3_keep_6 : decode cX3_keep 6 = .ok (.if_icmp .ge 51, 3) := by decide +kernel
theorem dX3_keep_9 : decode cX3_keep 9 = .ok (.aload_n 0, 1) := by decide +kernel
theorem dX3_keep_10 : decode cX3_keep 10 = .ok (.getfield 17, 3) := by decide +kernel
theorem dX3_keep_13 : decode cX3_keep 13 = .ok (.iload_n 1, 1) := by decide +kernel
theorem dX3_keep_14 : decode cX3_keep 14 = .ok (.aload_n 0, 1) := by decide +kernel
theorem dX3_keep_15 : decode cX3_keep 15 = .ok (.getfield 7, 3) := by decide +kernel
theorem dX3_keep_18 : decode cX3_keep 18 = .ok (.sipush 128, 3) := by decide +kernel
theorem dX3_keep_21 : decode cX3_keep 21 = .ok (.aload_n 0, 1) := by decide +kernel
theorem dX3_keep_22 : decode cX3_keep 22 = .ok (.getfield 33, 3) := by decide +kernel
theorem dX3_keep_25 : decode cX3_keep 25 = .ok (.imul, 1) := by decide +kernel
theorem dX3_keep_26 : decode cX3_keep 26 = .ok (.iload_n 1, 1) := by decide +kernel
theorem dX3_keep_27 : decode cX3_keep 27 = .ok (.iadd, 1) := by decide +kernel
theorem dX3_keep_28 : decode cX3_keep 28 = .ok (.baload, 1) := by decide +kernel
theorem dX3_keep_29 : decode cX3_keep 29 = .ok (.bastore, 1) := by decide +kernel
theorem dX3_keep_30 : decode cX3_keep 30 = .ok (.aload_n 0, 1) := by decide +kernel
theorem dX3_keep_31 : decode cX3_keep 31 = .ok (.getfield 20, 3) := by decide +kernel
theorem dX3_keep_34 : decode cX3_keep 34 = .ok (.iload_n 1, 1) := by decide +kernel
theorem dX3_keep_35 : decode cX3_keep 35 = .ok (.aload_n 0, 1) := by decide +kernel
theorem dX3_keep_36 : decode cX3_keep 36 = .ok (.getfield 13, 3) := by decide +kernel
theorem dX3_keep_39 : decode cX3_keep 39 = .ok (.sipush 128, 3) := by decide +kernel
theorem dX3_keep_42 : decode cX3_keep 42 = .ok (.aload_n 0, 1) := by decide +kernel
theorem dX3_keep_43 : decode cX3_keep 43 = .ok (.getfield 33, 3) := by decide +kernel
theorem dX3_keep_46 : decode cX3_keep 46 = .ok (.imul, 1) := by decide +kernel
theorem dX3_keep_47 : decode cX3_keep 47 = .ok (.iload_n 1, 1) := by decide +kernel
theorem dX3_keep_48 : decode cX3_keep 48 = .ok (.iadd, 1) := by decide +kernel
theorem dX3_keep_49 : decode cX3_keep 49 = .ok (.iaload, 1) := by decide +kernel
theorem dX3_keep_50 : decode cX3_keep 50 = .ok (.iastore, 1) := by decide +kernel
theorem dX3_keep_51 : decode cX3_keep 51 = .ok (.iinc 1 1, 3) := by decide +kernel
theorem dX3_keep_54 : decode cX3_keep 54 = .ok (.goto (-52), 3) := by decide +kernel
theorem dX3_keep_57 : decode cX3_keep 57 = .ok (.return_, 1) := by decide +kernel
theorem dX3_goBack_0 : decode cX3_goBack 0 = .ok (.iconst 0, 1) := by decide +kernel
theorem dX3_goBack_1 : decode cX3_goBack 1 = .ok (.istore_n 1, 1) := by decide +kernel
theorem dX3_goBack_2 : decode cX3_goBack 2 = .ok (.iload_n 1, 1) := by decide +kernel
theorem dX3_goBack_3 : decode cX3_goBack 3 = .ok (.sipush 128, 3) := by decide +kernel
theorem dX3_goBack_6 : decode cX3_goBack 6 = .ok (.if_icmp .ge 51, 3) := by decide +kernel
theorem dX3_goBack_9 : decode cX3_goBack 9 = .ok (.aload_n 0, 1) := by decide +kernel
theorem dX3_goBack_10 : decode cX3_goBack 10 = .ok (.getfield 7, 3) := by decide +kernel
theorem dX3_goBack_13 : decode cX3_goBack 13 = .ok (.sipush 128, 3) := by decide +kernel
theorem dX3_goBack_16 : decode cX3_goBack 16 = .ok (.aload_n 0, 1) := by decide +kernel
theorem dX3_goBack_17 : decode cX3_goBack 17 = .ok (.getfield 33, 3) := by decide +kernel
theorem dX3_goBack_20 : decode cX3_goBack 20 = .ok (.imul, 1) := by decide +kernel
theorem dX3_goBack_21 : decode cX3_goBack 21 = .ok (.iload_n 1, 1) := by decide +kernel
theorem dX3_goBack_22 : decode cX3_goBack 22 = .ok (.iadd, 1) := by decide +kernel
theorem dX3_goBack_23 : decode cX3_goBack 23 = .ok (.aload_n 0, 1) := by decide +kernel
theorem dX3_goBack_24 : decode cX3_goBack 24 = .ok (.getfield 17, 3) := by decide +kernel
theorem dX3_goBack_27 : decode cX3_goBack 27 = .ok (.iload_n 1, 1) := by decide +kernel
theorem dX3_goBack_28 : decode cX3_goBack 28 = .ok (.baload, 1) := by decide +kernel
theorem dX3_goBack_29 : decode cX3_goBack 29 = .ok (.bastore, 1) := by decide +kernel
theorem dX3_goBack_30 : decode cX3_goBack 30 = .ok (.aload_n 0, 1) := by decide +kernel
theorem dX3_goBack_31 : decode cX3_goBack 31 = .ok (.getfield 13, 3) := by decide +kernel
theorem dX3_goBack_34 : decode cX3_goBack 34 = .ok (.sipush 128, 3) := by decide +kernel
theorem dX3_goBack_37 : decode cX3_goBack 37 = .ok (.aload_n 0, 1) := by decide +kernel
theorem dX3_goBack_38 : decode cX3_goBack 38 = .ok (.getfield 33, 3) := by decide +kernel
theorem dX3_goBack_41 : decode cX3_goBack 41 = .ok (.imul, 1) := by decide +kernel
theorem dX3_goBack_42 : decode cX3_goBack 42 = .ok (.iload_n 1, 1) := by decide +kernel
theorem dX3_goBack_43 : decode cX3_goBack 43 = .ok (.iadd, 1) := by decide +kernel
theorem dX3_goBack_44 : decode cX3_goBack 44 = .ok (.aload_n 0, 1) := by decide +kernel
theorem dX3_goBack_45 : decode cX3_goBack 45 = .ok (.getfield 20, 3) := by decide +kernel
theorem dX3_goBack_48 : decode cX3_goBack 48 = .ok (.iload_n 1, 1) := by decide +kernel
theorem dX3_goBack_49 : decode cX3_goBack 49 = .ok (.iaload, 1) := by decide +kernel
theorem dX3_goBack_50 : decode cX3_goBack 50 = .ok (.iastore, 1) := by decide +kernel
theorem dX3_goBack_51 : decode cX3_goBack 51 = .ok (.iinc 1 1, 3) := by decide +kernel
theorem dX3_goBack_54 : decode cX3_goBack 54 = .ok (.goto (-52), 3) := by decide +kernel
theorem dX3_goBack_57 : decode cX3_goBack 57 = .ok (.return_, 1) := by decide +kernel
theorem dX3_heldIn_0 : decode cX3_heldIn 0 = .ok (.iconst 0, 1) := by decide +kernel
theorem dX3_heldIn_1 : decode cX3_heldIn 1 = .ok (.istore 4, 2) := by decide +kernel
theorem dX3_heldIn_3 : decode cX3_heldIn 3 = .ok (.iload_n 2, 1) := by decide +kernel
theorem dX3_heldIn_4 : decode cX3_heldIn 4 = .ok (.istore 5, 2) := by decide +kernel
theorem dX3_heldIn_6 : decode cX3_heldIn 6 = .ok (.iload 5, 2) := by decide +kernel
theorem dX3_heldIn_8 : decode cX3_heldIn 8 = .ok (.iload_n 3, 1) := by decide +kernel
theorem dX3_heldIn_9 : decode cX3_heldIn 9 = .ok (.if_icmp .ge 37, 3) := by decide +kernel
theorem dX3_heldIn_12 : decode cX3_heldIn 12 = .ok (.iload 4, 2) := by decide +kernel
theorem dX3_heldIn_14 : decode cX3_heldIn 14 = .ok (.aload_n 0, 1) := by decide +kernel
theorem dX3_heldIn_15 : decode cX3_heldIn 15 = .ok (.getfield 7, 3) := by decide +kernel
theorem dX3_heldIn_18 : decode cX3_heldIn 18 = .ok (.aload_n 0, 1) := by decide +kernel
theorem dX3_heldIn_19 : decode cX3_heldIn 19 = .ok (.getfield 33, 3) := by decide +kernel
theorem dX3_heldIn_22 : decode cX3_heldIn 22 = .ok (.iload_n 1, 1) := by decide +kernel
theorem dX3_heldIn_23 : decode cX3_heldIn 23 = .ok (.iload 5, 2) := by decide +kernel
theorem dX3_heldIn_25 : decode cX3_heldIn 25 = .ok (.invokestatic 40, 3) := by decide +kernel
theorem dX3_heldIn_28 : decode cX3_heldIn 28 = .ok (.baload, 1) := by decide +kernel
theorem dX3_heldIn_29 : decode cX3_heldIn 29 = .ok (.ifCond .eq 7, 3) := by decide +kernel
theorem dX3_heldIn_32 : decode cX3_heldIn 32 = .ok (.iconst 1, 1) := by decide +kernel
theorem dX3_heldIn_33 : decode cX3_heldIn 33 = .ok (.goto 4, 3) := by decide +kernel
theorem dX3_heldIn_36 : decode cX3_heldIn 36 = .ok (.iconst 0, 1) := by decide +kernel
theorem dX3_heldIn_37 : decode cX3_heldIn 37 = .ok (.iadd, 1) := by decide +kernel
theorem dX3_heldIn_38 : decode cX3_heldIn 38 = .ok (.istore 4, 2) := by decide +kernel
theorem dX3_heldIn_40 : decode cX3_heldIn 40 = .ok (.iinc 5 1, 3) := by decide +kernel
theorem dX3_heldIn_43 : decode cX3_heldIn 43 = .ok (.goto (-37), 3) := by decide +kernel
theorem dX3_heldIn_46 : decode cX3_heldIn 46 = .ok (.iload 4, 2) := by decide +kernel
theorem dX3_heldIn_48 : decode cX3_heldIn 48 = .ok (.ireturn, 1) := by decide +kernel
theorem dX3_change_0 : decode cX3_change 0 = .ok (.aload_n 0, 1) := by decide +kernel
theorem dX3_change_1 : decode cX3_change 1 = .ok (.getfield 7, 3) := by decide +kernel
theorem dX3_change_4 : decode cX3_change 4 = .ok (.iload_n 2, 1) := by decide +kernel
theorem dX3_change_5 : decode cX3_change 5 = .ok (.baload, 1) := by decide +kernel
theorem dX3_change_6 : decode cX3_change 6 = .ok (.istore 4, 2) := by decide +kernel
theorem dX3_change_8 : decode cX3_change 8 = .ok (.aload_n 0, 1) := by decide +kernel
theorem dX3_change_9 : decode cX3_change 9 = .ok (.getfield 13, 3) := by decide +kernel
theorem dX3_change_12 : decode cX3_change 12 = .ok (.iload_n 2, 1) := by decide +kernel
theorem dX3_change_13 : decode cX3_change 13 = .ok (.iaload, 1) := by decide +kernel
theorem dX3_change_14 : decode cX3_change 14 = .ok (.istore 5, 2) := by decide +kernel
theorem dX3_change_16 : decode cX3_change 16 = .ok (.iload_n 1, 1) := by decide +kernel
theorem dX3_change_17 : decode cX3_change 17 = .ok (.ifCond .eq 18, 3) := by decide +kernel
theorem dX3_change_20 : decode cX3_change 20 = .ok (.iload_n 1, 1) := by decide +kernel
theorem dX3_change_21 : decode cX3_change 21 = .ok (.iconst 1, 1) := by decide +kernel
theorem dX3_change_22 : decode cX3_change 22 = .ok (.if_icmp .eq 13, 3) := by decide +kernel
theorem dX3_change_25 : decode cX3_change 25 = .ok (.iload 4, 2) := by decide +kernel
theorem dX3_change_27 : decode cX3_change 27 = .ok (.ifCond .eq 12, 3) := by decide +kernel
theorem dX3_change_30 : decode cX3_change 30 = .ok (.iload_n 1, 1) := by decide +kernel
theorem dX3_change_31 : decode cX3_change 31 = .ok (.iconst 4, 1) := by decide +kernel
theorem dX3_change_32 : decode cX3_change 32 = .ok (.if_icmp .eq 7, 3) := by decide +kernel
theorem dX3_change_35 : decode cX3_change 35 = .ok (.iconst 1, 1) := by decide +kernel
theorem dX3_change_36 : decode cX3_change 36 = .ok (.goto 4, 3) := by decide +kernel
theorem dX3_change_39 : decode cX3_change 39 = .ok (.iconst 0, 1) := by decide +kernel
theorem dX3_change_40 : decode cX3_change 40 = .ok (.istore 6, 2) := by decide +kernel
theorem dX3_change_42 : decode cX3_change 42 = .ok (.iload_n 1, 1) := by decide +kernel
theorem dX3_change_43 : decode cX3_change 43 = .ok (.iconst 3, 1) := by decide +kernel
theorem dX3_change_44 : decode cX3_change 44 = .ok (.if_icmp .ne 10, 3) := by decide +kernel
theorem dX3_change_47 : decode cX3_change 47 = .ok (.iload 5, 2) := by decide +kernel
theorem dX3_change_49 : decode cX3_change 49 = .ok (.iload_n 3, 1) := by decide +kernel
theorem dX3_change_50 : decode cX3_change 50 = .ok (.iadd, 1) := by decide +kernel
theorem dX3_change_51 : decode cX3_change 51 = .ok (.goto 4, 3) := by decide +kernel
theorem dX3_change_54 : decode cX3_change 54 = .ok (.iload_n 3, 1) := by decide +kernel
theorem dX3_change_55 : decode cX3_change 55 = .ok (.istore 7, 2) := by decide +kernel
theorem dX3_change_57 : decode cX3_change 57 = .ok (.iload 4, 2) := by decide +kernel
theorem dX3_change_59 : decode cX3_change 59 = .ok (.iload 6, 2) := by decide +kernel
theorem dX3_change_61 : decode cX3_change 61 = .ok (.if_icmp .ne 15, 3) := by decide +kernel
theorem dX3_change_64 : decode cX3_change 64 = .ok (.iload 4, 2) := by decide +kernel
theorem dX3_change_66 : decode cX3_change 66 = .ok (.ifCond .eq 20, 3) := by decide +kernel
theorem dX3_change_69 : decode cX3_change 69 = .ok (.iload 5, 2) := by decide +kernel
theorem dX3_change_71 : decode cX3_change 71 = .ok (.iload 7, 2) := by decide +kernel
theorem dX3_change_73 : decode cX3_change 73 = .ok (.if_icmp .eq 13, 3) := by decide +kernel
theorem dX3_change_76 : decode cX3_change 76 = .ok (.aload_n 0, 1) := by decide +kernel
theorem dX3_change_77 : decode cX3_change 77 = .ok (.dup, 1) := by decide +kernel
theorem dX3_change_78 : decode cX3_change 78 = .ok (.getfield 62, 3) := by decide +kernel
theorem dX3_change_81 : decode cX3_change 81 = .ok (.iconst 1, 1) := by decide +kernel
theorem dX3_change_82 : decode cX3_change 82 = .ok (.iadd, 1) := by decide +kernel
theorem dX3_change_83 : decode cX3_change 83 = .ok (.putfield 62, 3) := by decide +kernel
theorem dX3_change_86 : decode cX3_change 86 = .ok (.aload_n 0, 1) := by decide +kernel
theorem dX3_change_87 : decode cX3_change 87 = .ok (.getfield 7, 3) := by decide +kernel
theorem dX3_change_90 : decode cX3_change 90 = .ok (.iload_n 2, 1) := by decide +kernel
theorem dX3_change_91 : decode cX3_change 91 = .ok (.iload 6, 2) := by decide +kernel
theorem dX3_change_93 : decode cX3_change 93 = .ok (.bastore, 1) := by decide +kernel
theorem dX3_change_94 : decode cX3_change 94 = .ok (.aload_n 0, 1) := by decide +kernel
theorem dX3_change_95 : decode cX3_change 95 = .ok (.getfield 13, 3) := by decide +kernel
theorem dX3_change_98 : decode cX3_change 98 = .ok (.iload_n 2, 1) := by decide +kernel
theorem dX3_change_99 : decode cX3_change 99 = .ok (.iload 6, 2) := by decide +kernel
theorem dX3_change_101 : decode cX3_change 101 = .ok (.ifCond .eq 8, 3) := by decide +kernel
theorem dX3_change_104 : decode cX3_change 104 = .ok (.iload 7, 2) := by decide +kernel
theorem dX3_change_106 : decode cX3_change 106 = .ok (.goto 4, 3) := by decide +kernel
theorem dX3_change_109 : decode cX3_change 109 = .ok (.iconst 0, 1) := by decide +kernel
theorem dX3_change_110 : decode cX3_change 110 = .ok (.iastore, 1) := by decide +kernel
theorem dX3_change_111 : decode cX3_change 111 = .ok (.return_, 1) := by decide +kernel
theorem dX3_perform_0 : decode cX3_perform 0 = .ok (.aload_n 0, 1) := by decide +kernel
theorem dX3_perform_1 : decode cX3_perform 1 = .ok (.iconst 0, 1) := by decide +kernel
theorem dX3_perform_2 : decode cX3_perform 2 = .ok (.putfield 62, 3) := by decide +kernel
theorem dX3_perform_5 : decode cX3_perform 5 = .ok (.iload_n 1, 1) := by decide +kernel
theorem dX3_perform_6 : decode cX3_perform 6 = .ok (.ifCond .lt 25, 3) := by decide +kernel
theorem dX3_perform_9 : decode cX3_perform 9 = .ok (.iload_n 1, 1) := by decide +kernel
theorem dX3_perform_10 : decode cX3_perform 10 = .ok (.iconst 4, 1) := by decide +kernel
theorem dX3_perform_11 : decode cX3_perform 11 = .ok (.if_icmp .gt 20, 3) := by decide +kernel
theorem dX3_perform_14 : decode cX3_perform 14 = .ok (.iload_n 2, 1) := by decide +kernel
theorem dX3_perform_15 : decode cX3_perform 15 = .ok (.invokestatic 65, 3) := by decide +kernel
theorem dX3_perform_18 : decode cX3_perform 18 = .ok (.ifCond .eq 13, 3) := by decide +kernel
theorem dX3_perform_21 : decode cX3_perform 21 = .ok (.iload 4, 2) := by decide +kernel
theorem dX3_perform_23 : decode cX3_perform 23 = .ok (.iload 5, 2) := by decide +kernel
theorem dX3_perform_25 : decode cX3_perform 25 = .ok (.invokestatic 69, 3) := by decide +kernel
theorem dX3_perform_28 : decode cX3_perform 28 = .ok (.ifCond .ne 5, 3) := by decide +kernel
theorem dX3_perform_31 : decode cX3_perform 31 = .ok (.iconst 1, 1) := by decide +kernel
theorem dX3_perform_32 : decode cX3_perform 32 = .ok (.ireturn, 1) := by decide +kernel
theorem dX3_perform_33 : decode cX3_perform 33 = .ok (.aload_n 0, 1) := by decide +kernel
theorem dX3_perform_34 : decode cX3_perform 34 = .ok (.iload_n 2, 1) := by decide +kernel
theorem dX3_perform_35 : decode cX3_perform 35 = .ok (.iload 4, 2) := by decide +kernel
theorem dX3_perform_37 : decode cX3_perform 37 = .ok (.iload 5, 2) := by decide +kernel
theorem dX3_perform_39 : decode cX3_perform 39 = .ok (.invokevirtual 73, 3) := by decide +kernel
theorem dX3_perform_42 : decode cX3_perform 42 = .ok (.istore 6, 2) := by decide +kernel
theorem dX3_perform_44 : decode cX3_perform 44 = .ok (.iload_n 1, 1) := by decide +kernel
theorem dX3_perform_45 : decode cX3_perform 45 = .ok (.iconst 2, 1) := by decide +kernel
theorem dX3_perform_46 : decode cX3_perform 46 = .ok (.if_icmp .lt 10, 3) := by decide +kernel
theorem dX3_perform_49 : decode cX3_perform 49 = .ok (.iload 6, 2) := by decide +kernel
theorem dX3_perform_51 : decode cX3_perform 51 = .ok (.ifCond .ne 5, 3) := by decide +kernel
theorem dX3_perform_54 : decode cX3_perform 54 = .ok (.iconst 3, 1) := by decide +kernel
theorem dX3_perform_55 : decode cX3_perform 55 = .ok (.ireturn, 1) := by decide +kernel
theorem dX3_perform_56 : decode cX3_perform 56 = .ok (.iload_n 1, 1) := by decide +kernel
theorem dX3_perform_57 : decode cX3_perform 57 = .ok (.iconst 1, 1) := by decide +kernel
theorem dX3_perform_58 : decode cX3_perform 58 = .ok (.if_icmp .ne 10, 3) := by decide +kernel
theorem dX3_perform_61 : decode cX3_perform 61 = .ok (.iload 6, 2) := by decide +kernel
theorem dX3_perform_63 : decode cX3_perform 63 = .ok (.ifCond .le 5, 3) := by decide +kernel
theorem dX3_perform_66 : decode cX3_perform 66 = .ok (.iconst 2, 1) := by decide +kernel
theorem dX3_perform_67 : decode cX3_perform 67 = .ok (.ireturn, 1) := by decide +kernel
theorem dX3_perform_68 : decode cX3_perform 68 = .ok (.iload 4, 2) := by decide +kernel
theorem dX3_perform_70 : decode cX3_perform 70 = .ok (.istore 7, 2) := by decide +kernel
theorem dX3_perform_72 : decode cX3_perform 72 = .ok (.iload 7, 2) := by decide +kernel
theorem dX3_perform_74 : decode cX3_perform 74 = .ok (.iload 5, 2) := by decide +kernel
theorem dX3_perform_76 : decode cX3_perform 76 = .ok (.if_icmp .ge 25, 3) := by decide +kernel
theorem dX3_perform_79 : decode cX3_perform 79 = .ok (.aload_n 0, 1) := by decide +kernel
theorem dX3_perform_80 : decode cX3_perform 80 = .ok (.iload_n 1, 1) := by decide +kernel
theorem dX3_perform_81 : decode cX3_perform 81 = .ok (.aload_n 0, 1) := by decide +kernel
theorem dX3_perform_82 : decode cX3_perform 82 = .ok (.getfield 33, 3) := by decide +kernel
theorem dX3_perform_85 : decode cX3_perform 85 = .ok (.iload_n 2, 1) := by decide +kernel
theorem dX3_perform_86 : decode cX3_perform 86 = .ok (.iload 7, 2) := by decide +kernel
theorem dX3_perform_88 : decode cX3_perform 88 = .ok (.invokestatic 40, 3) := by decide +kernel
theorem dX3_perform_91 : decode cX3_perform 91 = .ok (.iload_n 3, 1) := by decide +kernel
theorem dX3_perform_92 : decode cX3_perform 92 = .ok (.invokevirtual 76, 3) := by decide +kernel
theorem dX3_perform_95 : decode cX3_perform 95 = .ok (.iinc 7 1, 3) := by decide +kernel
theorem dX3_perform_98 : decode cX3_perform 98 = .ok (.goto (-26), 3) := by decide +kernel
theorem dX3_perform_101 : decode cX3_perform 101 = .ok (.aload_n 0, 1) := by decide +kernel
theorem dX3_perform_102 : decode cX3_perform 102 = .ok (.invokevirtual 80, 3) := by decide +kernel
theorem dX3_perform_105 : decode cX3_perform 105 = .ok (.sipush 150, 3) := by decide +kernel
theorem dX3_perform_108 : decode cX3_perform 108 = .ok (.if_icmp .le 7, 3) := by decide +kernel
theorem dX3_perform_111 : decode cX3_perform 111 = .ok (.iconst 2, 1) := by decide +kernel
theorem dX3_perform_112 : decode cX3_perform 112 = .ok (.goto 4, 3) := by decide +kernel
theorem dX3_perform_115 : decode cX3_perform 115 = .ok (.iconst 0, 1) := by decide +kernel
theorem dX3_perform_116 : decode cX3_perform 116 = .ok (.ireturn, 1) := by decide +kernel
theorem dX3_state_0 : decode cX3_state 0 = .ok (.aload_n 0, 1) := by decide +kernel
theorem dX3_state_1 : decode cX3_state 1 = .ok (.iconst 0, 1) := by decide +kernel
theorem dX3_state_2 : decode cX3_state 2 = .ok (.putfield 30, 3) := by decide +kernel
theorem dX3_state_5 : decode cX3_state 5 = .ok (.aload_n 0, 1) := by decide +kernel
theorem dX3_state_6 : decode cX3_state 6 = .ok (.invokevirtual 84, 3) := by decide +kernel
theorem dX3_state_9 : decode cX3_state 9 = .ok (.aload_n 0, 1) := by decide +kernel
theorem dX3_state_10 : decode cX3_state 10 = .ok (.iload_n 1, 1) := by decide +kernel
theorem dX3_state_11 : decode cX3_state 11 = .ok (.iload_n 2, 1) := by decide +kernel
theorem dX3_state_12 : decode cX3_state 12 = .ok (.iload_n 3, 1) := by decide +kernel
theorem dX3_state_13 : decode cX3_state 13 = .ok (.iload 4, 2) := by decide +kernel
theorem dX3_state_15 : decode cX3_state 15 = .ok (.iload 5, 2) := by decide +kernel
theorem dX3_state_17 : decode cX3_state 17 = .ok (.invokevirtual 87, 3) := by decide +kernel
theorem dX3_state_20 : decode cX3_state 20 = .ok (.istore 6, 2) := by decide +kernel
theorem dX3_state_22 : decode cX3_state 22 = .ok (.iload 6, 2) := by decide +kernel
theorem dX3_state_24 : decode cX3_state 24 = .ok (.ifCond .le 14, 3) := by decide +kernel
theorem dX3_state_27 : decode cX3_state 27 = .ok (.aload_n 0, 1) := by decide +kernel
theorem dX3_state_28 : decode cX3_state 28 = .ok (.invokevirtual 91, 3) := by decide +kernel
theorem dX3_state_31 : decode cX3_state 31 = .ok (.aload_n 0, 1) := by decide +kernel
theorem dX3_state_32 : decode cX3_state 32 = .ok (.iload 6, 2) := by decide +kernel
theorem dX3_state_34 : decode cX3_state 34 = .ok (.invokevirtual 36, 3) := by decide +kernel
theorem dX3_state_37 : decode cX3_state 37 = .ok (.ireturn, 1) := by decide +kernel
theorem dX3_state_38 : decode cX3_state 38 = .ok (.aload_n 0, 1) := by decide +kernel
theorem dX3_state_39 : decode cX3_state 39 = .ok (.getfield 62, 3) := by decide +kernel
theorem dX3_state_42 : decode cX3_state 42 = .ok (.ireturn, 1) := by decide +kernel
theorem dX3_queue_0 : decode cX3_queue 0 = .ok (.aload_n 0, 1) := by decide +kernel
theorem dX3_queue_1 : decode cX3_queue 1 = .ok (.iconst 0, 1) := by decide +kernel
theorem dX3_queue_2 : decode cX3_queue 2 = .ok (.putfield 30, 3) := by decide +kernel
theorem dX3_queue_5 : decode cX3_queue 5 = .ok (.aload_n 0, 1) := by decide +kernel
theorem dX3_queue_6 : decode cX3_queue 6 = .ok (.getfield 94, 3) := by decide +kernel
theorem dX3_queue_9 : decode cX3_queue 9 = .ok (.bipush 8, 2) := by decide +kernel
theorem dX3_queue_11 : decode cX3_queue 11 = .ok (.if_icmp .ne 5, 3) := by decide +kernel
theorem dX3_queue_14 : decode cX3_queue 14 = .ok (.iconst 0, 1) := by decide +kernel
theorem dX3_queue_15 : decode cX3_queue 15 = .ok (.ireturn, 1) := by decide +kernel
theorem dX3_queue_16 : decode cX3_queue 16 = .ok (.aload_n 0, 1) := by decide +kernel
theorem dX3_queue_17 : decode cX3_queue 17 = .ok (.getfield 23, 3) := by decide +kernel
theorem dX3_queue_20 : decode cX3_queue 20 = .ok (.iconst 5, 1) := by decide +kernel
theorem dX3_queue_21 : decode cX3_queue 21 = .ok (.aload_n 0, 1) := by decide +kernel
theorem dX3_queue_22 : decode cX3_queue 22 = .ok (.getfield 94, 3) := by decide +kernel
theorem dX3_queue_25 : decode cX3_queue 25 = .ok (.imul, 1) := by decide +kernel
theorem dX3_queue_26 : decode cX3_queue 26 = .ok (.iload_n 1, 1) := by decide +kernel
theorem dX3_queue_27 : decode cX3_queue 27 = .ok (.iastore, 1) := by decide +kernel
theorem dX3_queue_28 : decode cX3_queue 28 = .ok (.aload_n 0, 1) := by decide +kernel
theorem dX3_queue_29 : decode cX3_queue 29 = .ok (.getfield 23, 3) := by decide +kernel
theorem dX3_queue_32 : decode cX3_queue 32 = .ok (.iconst 5, 1) := by decide +kernel
theorem dX3_queue_33 : decode cX3_queue 33 = .ok (.aload_n 0, 1) := by decide +kernel
theorem dX3_queue_34 : decode cX3_queue 34 = .ok (.getfield 94, 3) := by decide +kernel
theorem dX3_queue_37 : decode cX3_queue 37 = .ok (.imul, 1) := by decide +kernel
theorem dX3_queue_38 : decode cX3_queue 38 = .ok (.iconst 1, 1) := by decide +kernel
theorem dX3_queue_39 : decode cX3_queue 39 = .ok (.iadd, 1) := by decide +kernel
theorem dX3_queue_40 : decode cX3_queue 40 = .ok (.iload_n 2, 1) := by decide +kernel
theorem dX3_queue_41 : decode cX3_queue 41 = .ok (.iastore, 1) := by decide +kernel
theorem dX3_queue_42 : decode cX3_queue 42 = .ok (.aload_n 0, 1) := by decide +kernel
theorem dX3_queue_43 : decode cX3_queue 43 = .ok (.getfield 23, 3) := by decide +kernel
theorem dX3_queue_46 : decode cX3_queue 46 = .ok (.iconst 5, 1) := by decide +kernel
theorem dX3_queue_47 : decode cX3_queue 47 = .ok (.aload_n 0, 1) := by decide +kernel
theorem dX3_queue_48 : decode cX3_queue 48 = .ok (.getfield 94, 3) := by decide +kernel
theorem dX3_queue_51 : decode cX3_queue 51 = .ok (.imul, 1) := by decide +kernel
theorem dX3_queue_52 : decode cX3_queue 52 = .ok (.iconst 2, 1) := by decide +kernel
theorem dX3_queue_53 : decode cX3_queue 53 = .ok (.iadd, 1) := by decide +kernel
theorem dX3_queue_54 : decode cX3_queue 54 = .ok (.iload_n 3, 1) := by decide +kernel
theorem dX3_queue_55 : decode cX3_queue 55 = .ok (.iastore, 1) := by decide +kernel
theorem dX3_queue_56 : decode cX3_queue 56 = .ok (.aload_n 0, 1) := by decide +kernel
theorem dX3_queue_57 : decode cX3_queue 57 = .ok (.getfield 23, 3) := by decide +kernel
theorem dX3_queue_60 : decode cX3_queue 60 = .ok (.iconst 5, 1) := by decide +kernel
theorem dX3_queue_61 : decode cX3_queue 61 = .ok (.aload_n 0, 1) := by decide +kernel
theorem dX3_queue_62 : decode cX3_queue 62 = .ok (.getfield 94, 3) := by decide +kernel
theorem dX3_queue_65 : decode cX3_queue 65 = .ok (.imul, 1) := by decide +kernel
theorem dX3_queue_66 : decode cX3_queue 66 = .ok (.iconst 3, 1) := by decide +kernel
theorem dX3_queue_67 : decode cX3_queue 67 = .ok (.iadd, 1) := by decide +kernel
theorem dX3_queue_68 : decode cX3_queue 68 = .ok (.iload 4, 2) := by decide +kernel
theorem dX3_queue_70 : decode cX3_queue 70 = .ok (.iastore, 1) := by decide +kernel
theorem dX3_queue_71 : decode cX3_queue 71 = .ok (.aload_n 0, 1) := by decide +kernel
theorem dX3_queue_72 : decode cX3_queue 72 = .ok (.getfield 23, 3) := by decide +kernel
theorem dX3_queue_75 : decode cX3_queue 75 = .ok (.iconst 5, 1) := by decide +kernel
theorem dX3_queue_76 : decode cX3_queue 76 = .ok (.aload_n 0, 1) := by decide +kernel
theorem dX3_queue_77 : decode cX3_queue 77 = .ok (.getfield 94, 3) := by decide +kernel
theorem dX3_queue_80 : decode cX3_queue 80 = .ok (.imul, 1) := by decide +kernel
theorem dX3_queue_81 : decode cX3_queue 81 = .ok (.iconst 4, 1) := by decide +kernel
theorem dX3_queue_82 : decode cX3_queue 82 = .ok (.iadd, 1) := by decide +kernel
theorem dX3_queue_83 : decode cX3_queue 83 = .ok (.iload 5, 2) := by decide +kernel
theorem dX3_queue_85 : decode cX3_queue 85 = .ok (.iastore, 1) := by decide +kernel
theorem dX3_queue_86 : decode cX3_queue 86 = .ok (.aload_n 0, 1) := by decide +kernel
theorem dX3_queue_87 : decode cX3_queue 87 = .ok (.dup, 1) := by decide +kernel
theorem dX3_queue_88 : decode cX3_queue 88 = .ok (.getfield 94, 3) := by decide +kernel
theorem dX3_queue_91 : decode cX3_queue 91 = .ok (.iconst 1, 1) := by decide +kernel
theorem dX3_queue_92 : decode cX3_queue 92 = .ok (.iadd, 1) := by decide +kernel
theorem dX3_queue_93 : decode cX3_queue 93 = .ok (.putfield 94, 3) := by decide +kernel
theorem dX3_queue_96 : decode cX3_queue 96 = .ok (.iconst 1, 1) := by decide +kernel
theorem dX3_queue_97 : decode cX3_queue 97 = .ok (.ireturn, 1) := by decide +kernel
theorem dX3_commit_0 : decode cX3_commit 0 = .ok (.aload_n 0, 1) := by decide +kernel
theorem dX3_commit_1 : decode cX3_commit 1 = .ok (.iconst 0, 1) := by decide +kernel
theorem dX3_commit_2 : decode cX3_commit 2 = .ok (.putfield 30, 3) := by decide +kernel
theorem dX3_commit_5 : decode cX3_commit 5 = .ok (.aload_n 0, 1) := by decide +kernel
theorem dX3_commit_6 : decode cX3_commit 6 = .ok (.invokevirtual 84, 3) := by decide +kernel
theorem dX3_commit_9 : decode cX3_commit 9 = .ok (.aload_n 0, 1) := by decide +kernel
theorem dX3_commit_10 : decode cX3_commit 10 = .ok (.getfield 94, 3) := by decide +kernel
theorem dX3_commit_13 : decode cX3_commit 13 = .ok (.istore_n 1, 1) := by decide +kernel
theorem dX3_commit_14 : decode cX3_commit 14 = .ok (.iconst 0, 1) := by decide +kernel
theorem dX3_commit_15 : decode cX3_commit 15 = .ok (.istore_n 2, 1) := by decide +kernel
theorem dX3_commit_16 : decode cX3_commit 16 = .ok (.aload_n 0, 1) := by decide +kernel
theorem dX3_commit_17 : decode cX3_commit 17 = .ok (.iconst 0, 1) := by decide +kernel
theorem dX3_commit_18 : decode cX3_commit 18 = .ok (.putfield 94, 3) := by decide +kernel
theorem dX3_commit_21 : decode cX3_commit 21 = .ok (.aload_n 0, 1) := by decide +kernel
theorem dX3_commit_22 : decode cX3_commit 22 = .ok (.iconst (-1), 1) := by decide +kernel
theorem dX3_commit_23 : decode cX3_commit 23 = .ok (.putfield 26, 3) := by decide +kernel
theorem dX3_commit_26 : decode cX3_commit 26 = .ok (.iconst 0, 1) := by decide +kernel
theorem dX3_commit_27 : decode cX3_commit 27 = .ok (.istore_n 3, 1) := by decide +kernel
theorem dX3_commit_28 : decode cX3_commit 28 = .ok (.iload_n 3, 1) := by decide +kernel
theorem dX3_commit_29 : decode cX3_commit 29 = .ok (.iload_n 1, 1) := by decide +kernel
theorem dX3_commit_30 : decode cX3_commit 30 = .ok (.if_icmp .ge 91, 3) := by decide +kernel
theorem dX3_commit_33 : decode cX3_commit 33 = .ok (.aload_n 0, 1) := by decide +kernel
theorem dX3_commit_34 : decode cX3_commit 34 = .ok (.aload_n 0, 1) := by decide +kernel
theorem dX3_commit_35 : decode cX3_commit 35 = .ok (.getfield 23, 3) := by decide +kernel
theorem dX3_commit_38 : decode cX3_commit 38 = .ok (.iconst 5, 1) := by decide +kernel
theorem dX3_commit_39 : decode cX3_commit 39 = .ok (.iload_n 3, 1) := by decide +kernel
theorem dX3_commit_40 : decode cX3_commit 40 = .ok (.imul, 1) := by decide +kernel
theorem dX3_commit_41 : decode cX3_commit 41 = .ok (.iaload, 1) := by decide +kernel
theorem dX3_commit_42 : decode cX3_commit 42 = .ok (.aload_n 0, 1) := by decide +kernel
theorem dX3_commit_43 : decode cX3_commit 43 = .ok (.getfield 23, 3) := by decide +kernel
theorem dX3_commit_46 : decode cX3_commit 46 = .ok (.iconst 5, 1) := by decide +kernel
theorem dX3_commit_47 : decode cX3_commit 47 = .ok (.iload_n 3, 1) := by decide +kernel
theorem dX3_commit_48 : decode cX3_commit 48 = .ok (.imul, 1) := by decide +kernel
theorem dX3_commit_49 : decode cX3_commit 49 = .ok (.iconst 1, 1) := by decide +kernel
