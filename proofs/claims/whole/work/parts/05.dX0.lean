theorem dX0_init_0 : decode cX0_init 0 = .ok (.aload_n 0, 1) := by decide +kernel
theorem dX0_init_1 : decode cX0_init 1 = .ok (.invokespecial 3, 3) := by decide +kernel
theorem dX0_init_4 : decode cX0_init 4 = .ok (.aload_n 0, 1) := by decide +kernel
theorem dX0_init_5 : decode cX0_init 5 = .ok (.sipush 5248, 3) := by decide +kernel
theorem dX0_init_8 : decode cX0_init 8 = .ok (.newarray .int, 2) := by decide +kernel
theorem dX0_init_10 : decode cX0_init 10 = .ok (.putfield 9, 3) := by decide +kernel
theorem dX0_init_13 : decode cX0_init 13 = .ok (.aload_n 0, 1) := by decide +kernel
theorem dX0_init_14 : decode cX0_init 14 = .ok (.sipush 164, 3) := by decide +kernel
theorem dX0_init_17 : decode cX0_init 17 = .ok (.newarray .int, 2) := by decide +kernel
theorem dX0_init_19 : decode cX0_init 19 = .ok (.putfield 15, 3) := by decide +kernel
theorem dX0_init_22 : decode cX0_init 22 = .ok (.aload_n 0, 1) := by decide +kernel
theorem dX0_init_23 : decode cX0_init 23 = .ok (.sipush 160, 3) := by decide +kernel
theorem dX0_init_26 : decode cX0_init 26 = .ok (.newarray .int, 2) := by decide +kernel
theorem dX0_init_28 : decode cX0_init 28 = .ok (.putfield 18, 3) := by decide +kernel
theorem dX0_init_31 : decode cX0_init 31 = .ok (.aload_n 0, 1) := by decide +kernel
theorem dX0_init_32 : decode cX0_init 32 = .ok (.iconst 0, 1) := by decide +kernel
theorem dX0_init_33 : decode cX0_init 33 = .ok (.putfield 21, 3) := by decide +kernel
theorem dX0_init_36 : decode cX0_init 36 = .ok (.return_, 1) := by decide +kernel
theorem dX0_goOn_0 : decode cX0_goOn 0 = .ok (.aload_n 0, 1) := by decide +kernel
theorem dX0_goOn_1 : decode cX0_goOn 1 = .ok (.aload_n 0, 1) := by decide +kernel
theorem dX0_goOn_2 : decode cX0_goOn 2 = .ok (.getfield 21, 3) := by decide +kernel
theorem dX0_goOn_5 : decode cX0_goOn 5 = .ok (.aload_n 0, 1) := by decide +kernel
theorem dX0_goOn_6 : decode cX0_goOn 6 = .ok (.getfield 21, 3) := by decide +kernel
theorem dX0_goOn_9 : decode cX0_goOn 9 = .ok (.iconst 1, 1) := by decide +kernel
theorem dX0_goOn_10 : decode cX0_goOn 10 = .ok (.iadd, 1) := by decide +kernel
theorem dX0_goOn_11 : decode cX0_goOn 11 = .ok (.invokevirtual 25, 3) := by decide +kernel
theorem dX0_goOn_14 : decode cX0_goOn 14 = .ok (.aload_n 0, 1) := by decide +kernel
theorem dX0_goOn_15 : decode cX0_goOn 15 = .ok (.dup, 1) := by decide +kernel
theorem dX0_goOn_16 : decode cX0_goOn 16 = .ok (.getfield 21, 3) := by decide +kernel
theorem dX0_goOn_19 : decode cX0_goOn 19 = .ok (.iconst 1, 1) := by decide +kernel
theorem dX0_goOn_20 : decode cX0_goOn 20 = .ok (.iadd, 1) := by decide +kernel
theorem dX0_goOn_21 : decode cX0_goOn 21 = .ok (.putfield 21, 3) := by decide +kernel
theorem dX0_goOn_24 : decode cX0_goOn 24 = .ok (.return_, 1) := by decide +kernel
theorem dX0_save_0 : decode cX0_save 0 = .ok (.aload_n 0, 1) := by decide +kernel
theorem dX0_save_1 : decode cX0_save 1 = .ok (.aload_n 0, 1) := by decide +kernel
theorem dX0_save_2 : decode cX0_save 2 = .ok (.getfield 21, 3) := by decide +kernel
theorem dX0_save_5 : decode cX0_save 5 = .ok (.bipush 40, 2) := by decide +kernel
theorem dX0_save_7 : decode cX0_save 7 = .ok (.invokevirtual 25, 3) := by decide +kernel
theorem dX0_save_10 : decode cX0_save 10 = .ok (.return_, 1) := by decide +kernel
theorem dX0_restore_0 : decode cX0_restore 0 = .ok (.aload_n 0, 1) := by decide +kernel
theorem dX0_restore_1 : decode cX0_restore 1 = .ok (.bipush 40, 2) := by decide +kernel
theorem dX0_restore_3 : decode cX0_restore 3 = .ok (.aload_n 0, 1) := by decide +kernel
theorem dX0_restore_4 : decode cX0_restore 4 = .ok (.getfield 21, 3) := by decide +kernel
theorem dX0_restore_7 : decode cX0_restore 7 = .ok (.invokevirtual 25, 3) := by decide +kernel
theorem dX0_restore_10 : decode cX0_restore 10 = .ok (.iconst 0, 1) := by decide +kernel
theorem dX0_restore_11 : decode cX0_restore 11 = .ok (.istore_n 1, 1) := by decide +kernel
theorem dX0_restore_12 : decode cX0_restore 12 = .ok (.iload_n 1, 1) := by decide +kernel
theorem dX0_restore_13 : decode cX0_restore 13 = .ok (.iconst 4, 1) := by decide +kernel
theorem dX0_restore_14 : decode cX0_restore 14 = .ok (.if_icmp .ge 14, 3) := by decide +kernel
theorem dX0_restore_17 : decode cX0_restore 17 = .ok (.aload_n 0, 1) := by decide +kernel
theorem dX0_restore_18 : decode cX0_restore 18 = .ok (.iload_n 1, 1) := by decide +kernel
theorem dX0_restore_19 : decode cX0_restore 19 = .ok (.invokevirtual 29, 3) := by decide +kernel
theorem dX0_restore_22 : decode cX0_restore 22 = .ok (.iinc 1 1, 3) := by decide +kernel
theorem dX0_restore_25 : decode cX0_restore 25 = .ok (.goto (-13), 3) := by decide +kernel
theorem dX0_restore_28 : decode cX0_restore 28 = .ok (.return_, 1) := by decide +kernel
theorem dX0_copyState_0 : decode cX0_copyState 0 = .ok (.aload_n 0, 1) := by decide +kernel
theorem dX0_copyState_1 : decode cX0_copyState 1 = .ok (.getfield 9, 3) := by decide +kernel
theorem dX0_copyState_4 : decode cX0_copyState 4 = .ok (.iload_n 1, 1) := by decide +kernel
theorem dX0_copyState_5 : decode cX0_copyState 5 = .ok (.iconst 4, 1) := by decide +kernel
theorem dX0_copyState_6 : decode cX0_copyState 6 = .ok (.imul, 1) := by decide +kernel
theorem dX0_copyState_7 : decode cX0_copyState 7 = .ok (.bipush 32, 2) := by decide +kernel
theorem dX0_copyState_9 : decode cX0_copyState 9 = .ok (.imul, 1) := by decide +kernel
theorem dX0_copyState_10 : decode cX0_copyState 10 = .ok (.aload_n 0, 1) := by decide +kernel
theorem dX0_copyState_11 : decode cX0_copyState 11 = .ok (.getfield 9, 3) := by decide +kernel
theorem dX0_copyState_14 : decode cX0_copyState 14 = .ok (.iload_n 2, 1) := by decide +kernel
theorem dX0_copyState_15 : decode cX0_copyState 15 = .ok (.iconst 4, 1) := by decide +kernel
theorem dX0_copyState_16 : decode cX0_copyState 16 = .ok (.imul, 1) := by decide +kernel
theorem dX0_copyState_17 : decode cX0_copyState 17 = .ok (.bipush 32, 2) := by decide +kernel
theorem dX0_copyState_19 : decode cX0_copyState 19 = .ok (.imul, 1) := by decide +kernel
theorem dX0_copyState_20 : decode cX0_copyState 20 = .ok (.sipush 128, 3) := by decide +kernel
theorem dX0_copyState_23 : decode cX0_copyState 23 = .ok (.invokestatic 33, 3) := by decide +kernel
theorem dX0_copyState_26 : decode cX0_copyState 26 = .ok (.aload_n 0, 1) := by decide +kernel
theorem dX0_copyState_27 : decode cX0_copyState 27 = .ok (.getfield 15, 3) := by decide +kernel
theorem dX0_copyState_30 : decode cX0_copyState 30 = .ok (.iload_n 1, 1) := by decide +kernel
theorem dX0_copyState_31 : decode cX0_copyState 31 = .ok (.iconst 4, 1) := by decide +kernel
theorem dX0_copyState_32 : decode cX0_copyState 32 = .ok (.imul, 1) := by decide +kernel
theorem dX0_copyState_33 : decode cX0_copyState 33 = .ok (.aload_n 0, 1) := by decide +kernel
theorem dX0_copyState_34 : decode cX0_copyState 34 = .ok (.getfield 15, 3) := by decide +kernel
theorem dX0_copyState_37 : decode cX0_copyState 37 = .ok (.iload_n 2, 1) := by decide +kernel
theorem dX0_copyState_38 : decode cX0_copyState 38 = .ok (.iconst 4, 1) := by decide +kernel
theorem dX0_copyState_39 : decode cX0_copyState 39 = .ok (.imul, 1) := by decide +kernel
theorem dX0_copyState_40 : decode cX0_copyState 40 = .ok (.iconst 4, 1) := by decide +kernel
theorem dX0_copyState_41 : decode cX0_copyState 41 = .ok (.invokestatic 33, 3) := by decide +kernel
theorem dX0_copyState_44 : decode cX0_copyState 44 = .ok (.return_, 1) := by decide +kernel
theorem dX0_perform_0 : decode cX0_perform 0 = .ok (.iload_n 1, 1) := by decide +kernel
theorem dX0_perform_1 : decode cX0_perform 1 = .ok (.ifCond .lt 25, 3) := by decide +kernel
theorem dX0_perform_4 : decode cX0_perform 4 = .ok (.iload_n 1, 1) := by decide +kernel
theorem dX0_perform_5 : decode cX0_perform 5 = .ok (.iconst 4, 1) := by decide +kernel
theorem dX0_perform_6 : decode cX0_perform 6 = .ok (.if_icmp .gt 20, 3) := by decide +kernel
theorem dX0_perform_9 : decode cX0_perform 9 = .ok (.iload_n 2, 1) := by decide +kernel
theorem dX0_perform_10 : decode cX0_perform 10 = .ok (.invokestatic 39, 3) := by decide +kernel
theorem dX0_perform_13 : decode cX0_perform 13 = .ok (.ifCond .eq 13, 3) := by decide +kernel
theorem dX0_perform_16 : decode cX0_perform 16 = .ok (.iload 4, 2) := by decide +kernel
theorem dX0_perform_18 : decode cX0_perform 18 = .ok (.iload 5, 2) := by decide +kernel
theorem dX0_perform_20 : decode cX0_perform 20 = .ok (.invokestatic 43, 3) := by decide +kernel
theorem dX0_perform_23 : decode cX0_perform 23 = .ok (.ifCond .ne 5, 3) := by decide +kernel
theorem dX0_perform_26 : decode cX0_perform 26 = .ok (.iconst (-1), 1) := by decide +kernel
theorem dX0_perform_27 : decode cX0_perform 27 = .ok (.ireturn, 1) := by decide +kernel
theorem dX0_perform_28 : decode cX0_perform 28 = .ok (.aload_n 0, 1) := by decide +kernel
theorem dX0_perform_29 : decode cX0_perform 29 = .ok (.getfield 21, 3) := by decide +kernel
theorem dX0_perform_32 : decode cX0_perform 32 = .ok (.iload_n 2, 1) := by decide +kernel
theorem dX0_perform_33 : decode cX0_perform 33 = .ok (.invokestatic 47, 3) := by decide +kernel
theorem dX0_perform_36 : decode cX0_perform 36 = .ok (.istore 6, 2) := by decide +kernel
theorem dX0_perform_38 : decode cX0_perform 38 = .ok (.aload_n 0, 1) := by decide +kernel
theorem dX0_perform_39 : decode cX0_perform 39 = .ok (.getfield 15, 3) := by decide +kernel
theorem dX0_perform_42 : decode cX0_perform 42 = .ok (.iload 6, 2) := by decide +kernel
theorem dX0_perform_44 : decode cX0_perform 44 = .ok (.iaload, 1) := by decide +kernel
theorem dX0_perform_45 : decode cX0_perform 45 = .ok (.iload 4, 2) := by decide +kernel
theorem dX0_perform_47 : decode cX0_perform 47 = .ok (.iload 5, 2) := by decide +kernel
theorem dX0_perform_49 : decode cX0_perform 49 = .ok (.invokestatic 51, 3) := by decide +kernel
theorem dX0_perform_52 : decode cX0_perform 52 = .ok (.iand, 1) := by decide +kernel
theorem dX0_perform_53 : decode cX0_perform 53 = .ok (.ifCond .eq 7, 3) := by decide +kernel
theorem dX0_perform_56 : decode cX0_perform 56 = .ok (.iconst 1, 1) := by decide +kernel
theorem dX0_perform_57 : decode cX0_perform 57 = .ok (.goto 4, 3) := by decide +kernel
theorem dX0_perform_60 : decode cX0_perform 60 = .ok (.iconst 0, 1) := by decide +kernel
theorem dX0_perform_61 : decode cX0_perform 61 = .ok (.istore 7, 2) := by decide +kernel
theorem dX0_perform_63 : decode cX0_perform 63 = .ok (.iload_n 1, 1) := by decide +kernel
theorem dX0_perform_64 : decode cX0_perform 64 = .ok (.iconst 2, 1) := by decide +kernel
theorem dX0_perform_65 : decode cX0_perform 65 = .ok (.if_icmp .lt 11, 3) := by decide +kernel
theorem dX0_perform_68 : decode cX0_perform 68 = .ok (.iload 7, 2) := by decide +kernel
theorem dX0_perform_70 : decode cX0_perform 70 = .ok (.ifCond .ne 6, 3) := by decide +kernel
theorem dX0_perform_73 : decode cX0_perform 73 = .ok (.bipush (-2), 2) := by decide +kernel
theorem dX0_perform_75 : decode cX0_perform 75 = .ok (.ireturn, 1) := by decide +kernel
theorem dX0_perform_76 : decode cX0_perform 76 = .ok (.iload_n 1, 1) := by decide +kernel
theorem dX0_perform_77 : decode cX0_perform 77 = .ok (.iconst 1, 1) := by decide +kernel
theorem dX0_perform_78 : decode cX0_perform 78 = .ok (.if_icmp .ne 11, 3) := by decide +kernel
theorem dX0_perform_81 : decode cX0_perform 81 = .ok (.iload 7, 2) := by decide +kernel
theorem dX0_perform_83 : decode cX0_perform 83 = .ok (.ifCond .eq 6, 3) := by decide +kernel
theorem dX0_perform_86 : decode cX0_perform 86 = .ok (.bipush (-3), 2) := by decide +kernel
theorem dX0_perform_88 : decode cX0_perform 88 = .ok (.ireturn, 1) := by decide +kernel
theorem dX0_perform_89 : decode cX0_perform 89 = .ok (.iconst 0, 1) := by decide +kernel
theorem dX0_perform_90 : decode cX0_perform 90 = .ok (.istore 8, 2) := by decide +kernel
theorem dX0_perform_92 : decode cX0_perform 92 = .ok (.iload 4, 2) := by decide +kernel
theorem dX0_perform_94 : decode cX0_perform 94 = .ok (.istore 9, 2) := by decide +kernel
theorem dX0_perform_96 : decode cX0_perform 96 = .ok (.iload 9, 2) := by decide +kernel
theorem dX0_perform_98 : decode cX0_perform 98 = .ok (.iload 5, 2) := by decide +kernel
theorem dX0_perform_100 : decode cX0_perform 100 = .ok (.if_icmp .ge 25, 3) := by decide +kernel
theorem dX0_perform_103 : decode cX0_perform 103 = .ok (.aload_n 0, 1) := by decide +kernel
theorem dX0_perform_104 : decode cX0_perform 104 = .ok (.iload_n 1, 1) := by decide +kernel
theorem dX0_perform_105 : decode cX0_perform 105 = .ok (.iload 6, 2) := by decide +kernel
theorem dX0_perform_107 : decode cX0_perform 107 = .ok (.iload 9, 2) := by decide +kernel
theorem dX0_perform_109 : decode cX0_perform 109 = .ok (.iload_n 3, 1) := by decide +kernel
theorem dX0_perform_110 : decode cX0_perform 110 = .ok (.invokevirtual 54, 3) := by decide +kernel
theorem dX0_perform_113 : decode cX0_perform 113 = .ok (.ifCond .eq 6, 3) := by decide +kernel
theorem dX0_perform_116 : decode cX0_perform 116 = .ok (.iinc 8 1, 3) := by decide +kernel
theorem dX0_perform_119 : decode cX0_perform 119 = .ok (.iinc 9 1, 3) := by decide +kernel
theorem dX0_perform_122 : decode cX0_perform 122 = .ok (.goto (-26), 3) := by decide +kernel
theorem dX0_perform_125 : decode cX0_perform 125 = .ok (.aload_n 0, 1) := by decide +kernel
theorem dX0_perform_126 : decode cX0_perform 126 = .ok (.iload_n 2, 1) := by decide +kernel
theorem dX0_perform_127 : decode cX0_perform 127 = .ok (.invokevirtual 29, 3) := by decide +kernel
theorem dX0_perform_130 : decode cX0_perform 130 = .ok (.aload_n 0, 1) := by decide +kernel
theorem dX0_perform_131 : decode cX0_perform 131 = .ok (.invokevirtual 58, 3) := by decide +kernel
theorem dX0_perform_134 : decode cX0_perform 134 = .ok (.sipush 150, 3) := by decide +kernel
theorem dX0_perform_137 : decode cX0_perform 137 = .ok (.if_icmp .le 8, 3) := by decide +kernel
theorem dX0_perform_140 : decode cX0_perform 140 = .ok (.bipush (-3), 2) := by decide +kernel
theorem dX0_perform_142 : decode cX0_perform 142 = .ok (.goto 5, 3) := by decide +kernel
theorem dX0_perform_145 : decode cX0_perform 145 = .ok (.iload 8, 2) := by decide +kernel
theorem dX0_perform_147 : decode cX0_perform 147 = .ok (.ireturn, 1) := by decide +kernel
theorem dX0_maskOf_0 : decode cX0_maskOf 0 = .ok (.iconst (-1), 1) := by decide +kernel
theorem dX0_maskOf_1 : decode cX0_maskOf 1 = .ok (.iload_n 0, 1) := by decide +kernel
theorem dX0_maskOf_2 : decode cX0_maskOf 2 = .ok (.ishl, 1) := by decide +kernel
theorem dX0_maskOf_3 : decode cX0_maskOf 3 = .ok (.iconst (-1), 1) := by decide +kernel
theorem dX0_maskOf_4 : decode cX0_maskOf 4 = .ok (.bipush 32, 2) := by decide +kernel
theorem dX0_maskOf_6 : decode cX0_maskOf 6 = .ok (.iload_n 1, 1) := by decide +kernel
theorem dX0_maskOf_7 : decode cX0_maskOf 7 = .ok (.isub, 1) := by decide +kernel
theorem dX0_maskOf_8 : decode cX0_maskOf 8 = .ok (.iushr, 1) := by decide +kernel
theorem dX0_maskOf_9 : decode cX0_maskOf 9 = .ok (.iand, 1) := by decide +kernel
theorem dX0_maskOf_10 : decode cX0_maskOf 10 = .ok (.ireturn, 1) := by decide +kernel
theorem dX0_changeDay_0 : decode cX0_changeDay 0 = .ok (.aload_n 0, 1) := by decide +kernel
theorem dX0_changeDay_1 : decode cX0_changeDay 1 = .ok (.iload_n 2, 1) := by decide +kernel
theorem dX0_changeDay_2 : decode cX0_changeDay 2 = .ok (.iload_n 3, 1) := by decide +kernel
theorem dX0_changeDay_3 : decode cX0_changeDay 3 = .ok (.invokevirtual 62, 3) := by decide +kernel
theorem dX0_changeDay_6 : decode cX0_changeDay 6 = .ok (.istore 5, 2) := by decide +kernel
theorem dX0_changeDay_8 : decode cX0_changeDay 8 = .ok (.iload 5, 2) := by decide +kernel
theorem dX0_changeDay_10 : decode cX0_changeDay 10 = .ok (.ifCond .ne 10, 3) := by decide +kernel
theorem dX0_changeDay_13 : decode cX0_changeDay 13 = .ok (.iload_n 1, 1) := by decide +kernel
theorem dX0_changeDay_14 : decode cX0_changeDay 14 = .ok (.iconst 2, 1) := by decide +kernel
theorem dX0_changeDay_15 : decode cX0_changeDay 15 = .ok (.if_icmp .lt 5, 3) := by decide +kernel
theorem dX0_changeDay_18 : decode cX0_changeDay 18 = .ok (.iconst 0, 1) := by decide +kernel
theorem dX0_changeDay_19 : decode cX0_changeDay 19 = .ok (.ireturn, 1) := by decide +kernel
theorem dX0_changeDay_20 : decode cX0_changeDay 20 = .ok (.iload_n 1, 1) := by decide +kernel
theorem dX0_changeDay_21 : decode cX0_changeDay 21 = .ok (.iconst 4, 1) := by decide +kernel
theorem dX0_changeDay_22 : decode cX0_changeDay 22 = .ok (.if_icmp .ne 19, 3) := by decide +kernel
theorem dX0_changeDay_25 : decode cX0_changeDay 25 = .ok (.aload_n 0, 1) := by decide +kernel
theorem dX0_changeDay_26 : decode cX0_changeDay 26 = .ok (.getfield 15, 3) := by decide +kernel
theorem dX0_changeDay_29 : decode cX0_changeDay 29 = .ok (.iload_n 2, 1) := by decide +kernel
theorem dX0_changeDay_30 : decode cX0_changeDay 30 = .ok (.dup2, 1) := by decide +kernel
theorem dX0_changeDay_31 : decode cX0_changeDay 31 = .ok (.iaload, 1) := by decide +kernel
theorem dX0_changeDay_32 : decode cX0_changeDay 32 = .ok (.iconst 1, 1) := by decide +kernel
theorem dX0_changeDay_33 : decode cX0_changeDay 33 = .ok (.iload_n 3, 1) := by decide +kernel
theorem dX0_changeDay_34 : decode cX0_changeDay 34 = .ok (.ishl, 1) := by decide +kernel
theorem dX0_changeDay_35 : decode cX0_changeDay 35 = .ok (.iconst (-1), 1) := by decide +kernel
theorem dX0_changeDay_36 : decode cX0_changeDay 36 = .ok (.ixor, 1) := by decide +kernel
theorem dX0_changeDay_37 : decode cX0_changeDay 37 = .ok (.iand, 1) := by decide +kernel
theorem dX0_changeDay_38 : decode cX0_changeDay 38 = .ok (.iastore, 1) := by decide +kernel
theorem dX0_changeDay_39 : decode cX0_changeDay 39 = .ok (.iconst 1, 1) := by decide +kernel
theorem dX0_changeDay_40 : decode cX0_changeDay 40 = .ok (.ireturn, 1) := by decide +kernel
theorem dX0_changeDay_41 : decode cX0_changeDay 41 = .ok (.iload_n 2, 1) := by decide +kernel
theorem dX0_changeDay_42 : decode cX0_changeDay 42 = .ok (.bipush 32, 2) := by decide +kernel
theorem dX0_changeDay_44 : decode cX0_changeDay 44 = .ok (.imul, 1) := by decide +kernel
theorem dX0_changeDay_45 : decode cX0_changeDay 45 = .ok (.iload_n 3, 1) := by decide +kernel
theorem dX0_changeDay_46 : decode cX0_changeDay 46 = .ok (.iadd, 1) := by decide +kernel
theorem dX0_changeDay_47 : decode cX0_changeDay 47 = .ok (.istore 6, 2) := by decide +kernel
theorem dX0_changeDay_49 : decode cX0_changeDay 49 = .ok (.iload_n 1, 1) := by decide +kernel
theorem dX0_changeDay_50 : decode cX0_changeDay 50 = .ok (.iconst 3, 1) := by decide +kernel
theorem dX0_changeDay_51 : decode cX0_changeDay 51 = .ok (.if_icmp .ne 16, 3) := by decide +kernel
theorem dX0_changeDay_54 : decode cX0_changeDay 54 = .ok (.aload_n 0, 1) := by decide +kernel
theorem dX0_changeDay_55 : decode cX0_changeDay 55 = .ok (.getfield 9, 3) := by decide +kernel
theorem dX0_changeDay_58 : decode cX0_changeDay 58 = .ok (.iload 6, 2) := by decide +kernel
theorem dX0_changeDay_60 : decode cX0_changeDay 60 = .ok (.iaload, 1) := by decide +kernel
theorem dX0_changeDay_61 : decode cX0_changeDay 61 = .ok (.iload 4, 2) := by decide +kernel
theorem dX0_changeDay_63 : decode cX0_changeDay 63 = .ok (.iadd, 1) := by decide +kernel
theorem dX0_changeDay_64 : decode cX0_changeDay 64 = .ok (.goto 5, 3) := by decide +kernel
theorem dX0_changeDay_67 : decode cX0_changeDay 67 = .ok (.iload 4, 2) := by decide +kernel
theorem dX0_changeDay_69 : decode cX0_changeDay 69 = .ok (.istore 7, 2) := by decide +kernel
theorem dX0_changeDay_71 : decode cX0_changeDay 71 = .ok (.iload 5, 2) := by decide +kernel
theorem dX0_changeDay_73 : decode cX0_changeDay 73 = .ok (.ifCond .eq 15, 3) := by decide +kernel
theorem dX0_changeDay_76 : decode cX0_changeDay 76 = .ok (.aload_n 0, 1) := by decide +kernel
theorem dX0_changeDay_77 : decode cX0_changeDay 77 = .ok (.getfield 9, 3) := by decide +kernel
theorem dX0_changeDay_80 : decode cX0_changeDay 80 = .ok (.iload 6, 2) := by decide +kernel
theorem dX0_changeDay_82 : decode cX0_changeDay 82 = .ok (.iaload, 1) := by decide +kernel
theorem dX0_changeDay_83 : decode cX0_changeDay 83 = .ok (.iload 7, 2) := by decide +kernel
theorem dX0_changeDay_85 : decode cX0_changeDay 85 = .ok (.if_icmp .eq 7, 3) := by decide +kernel
theorem dX0_changeDay_88 : decode cX0_changeDay 88 = .ok (.iconst 1, 1) := by decide +kernel
theorem dX0_changeDay_89 : decode cX0_changeDay 89 = .ok (.goto 4, 3) := by decide +kernel
theorem dX0_changeDay_92 : decode cX0_changeDay 92 = .ok (.iconst 0, 1) := by decide +kernel
theorem dX0_changeDay_93 : decode cX0_changeDay 93 = .ok (.istore 8, 2) := by decide +kernel
theorem dX0_changeDay_95 : decode cX0_changeDay 95 = .ok (.aload_n 0, 1) := by decide +kernel
theorem dX0_changeDay_96 : decode cX0_changeDay 96 = .ok (.getfield 15, 3) := by decide +kernel
theorem dX0_changeDay_99 : decode cX0_changeDay 99 = .ok (.iload_n 2, 1) := by decide +kernel
theorem dX0_changeDay_100 : decode cX0_changeDay 100 = .ok (.dup2, 1) := by decide +kernel
theorem dX0_changeDay_101 : decode cX0_changeDay 101 = .ok (.iaload, 1) := by decide +kernel
theorem dX0_changeDay_102 : decode cX0_changeDay 102 = .ok (.iconst 1, 1) := by decide +kernel
theorem dX0_changeDay_103 : decode cX0_changeDay 103 = .ok (.iload_n 3, 1) := by decide +kernel
theorem dX0_changeDay_104 : decode cX0_changeDay 104 = .ok (.ishl, 1) := by decide +kernel
theorem dX0_changeDay_105 : decode cX0_changeDay 105 = .ok (.ior, 1) := by decide +kernel
theorem dX0_changeDay_106 : decode cX0_changeDay 106 = .ok (.iastore, 1) := by decide +kernel
theorem dX0_changeDay_107 : decode cX0_changeDay 107 = .ok (.aload_n 0, 1) := by decide +kernel
theorem dX0_changeDay_108 : decode cX0_changeDay 108 = .ok (.getfield 9, 3) := by decide +kernel
theorem dX0_changeDay_111 : decode cX0_changeDay 111 = .ok (.iload 6, 2) := by decide +kernel
theorem dX0_changeDay_113 : decode cX0_changeDay 113 = .ok (.iload 7, 2) := by decide +kernel
theorem dX0_changeDay_115 : decode cX0_changeDay 115 = .ok (.iastore, 1) := by decide +kernel
theorem dX0_changeDay_116 : decode cX0_changeDay 116 = .ok (.iload 8, 2) := by decide +kernel
theorem dX0_changeDay_118 : decode cX0_changeDay 118 = .ok (.ireturn, 1) := by decide +kernel
theorem dX0_isFilled_0 : decode cX0_isFilled 0 = .ok (.aload_n 0, 1) := by decide +kernel
theorem dX0_isFilled_1 : decode cX0_isFilled 1 = .ok (.getfield 15, 3) := by decide +kernel
theorem dX0_isFilled_4 : decode cX0_isFilled 4 = .ok (.iload_n 1, 1) := by decide +kernel
theorem dX0_isFilled_5 : decode cX0_isFilled 5 = .ok (.iaload, 1) := by decide +kernel
theorem dX0_isFilled_6 : decode cX0_isFilled 6 = .ok (.iload_n 2, 1) := by decide +kernel
theorem dX0_isFilled_7 : decode cX0_isFilled 7 = .ok (.iushr, 1) := by decide +kernel
theorem dX0_isFilled_8 : decode cX0_isFilled 8 = .ok (.iconst 1, 1) := by decide +kernel
theorem dX0_isFilled_9 : decode cX0_isFilled 9 = .ok (.iand, 1) := by decide +kernel
theorem dX0_isFilled_10 : decode cX0_isFilled 10 = .ok (.ifCond .eq 7, 3) := by decide +kernel
theorem dX0_isFilled_13 : decode cX0_isFilled 13 = .ok (.iconst 1, 1) := by decide +kernel
theorem dX0_isFilled_14 : decode cX0_isFilled 14 = .ok (.goto 4, 3) := by decide +kernel
theorem dX0_isFilled_17 : decode cX0_isFilled 17 = .ok (.iconst 0, 1) := by decide +kernel
theorem dX0_isFilled_18 : decode cX0_isFilled 18 = .ok (.ireturn, 1) := by decide +kernel
theorem dX0_valueOn_0 : decode cX0_valueOn 0 = .ok (.aload_n 0, 1) := by decide +kernel
theorem dX0_valueOn_1 : decode cX0_valueOn 1 = .ok (.getfield 9, 3) := by decide +kernel
theorem dX0_valueOn_4 : decode cX0_valueOn 4 = .ok (.iload_n 1, 1) := by decide +kernel
theorem dX0_valueOn_5 : decode cX0_valueOn 5 = .ok (.bipush 32, 2) := by decide +kernel
theorem dX0_valueOn_7 : decode cX0_valueOn 7 = .ok (.imul, 1) := by decide +kernel
theorem dX0_valueOn_8 : decode cX0_valueOn 8 = .ok (.iload_n 2, 1) := by decide +kernel
theorem dX0_valueOn_9 : decode cX0_valueOn 9 = .ok (.iadd, 1) := by decide +kernel
theorem dX0_valueOn_10 : decode cX0_valueOn 10 = .ok (.iaload, 1) := by decide +kernel
theorem dX0_valueOn_11 : decode cX0_valueOn 11 = .ok (.ireturn, 1) := by decide +kernel
theorem dX0_differ_0 : decode cX0_differ 0 = .ok (.aload_n 0, 1) := by decide +kernel
theorem dX0_differ_1 : decode cX0_differ 1 = .ok (.iload_n 1, 1) := by decide +kernel
theorem dX0_differ_2 : decode cX0_differ 2 = .ok (.iload_n 3, 1) := by decide +kernel
theorem dX0_differ_3 : decode cX0_differ 3 = .ok (.invokevirtual 62, 3) := by decide +kernel
theorem dX0_differ_6 : decode cX0_differ 6 = .ok (.istore 4, 2) := by decide +kernel
theorem dX0_differ_8 : decode cX0_differ 8 = .ok (.iload 4, 2) := by decide +kernel
theorem dX0_differ_10 : decode cX0_differ 10 = .ok (.aload_n 0, 1) := by decide +kernel
theorem dX0_differ_11 : decode cX0_differ 11 = .ok (.iload_n 2, 1) := by decide +kernel
theorem dX0_differ_12 : decode cX0_differ 12 = .ok (.iload_n 3, 1) := by decide +kernel
theorem dX0_differ_13 : decode cX0_differ 13 = .ok (.invokevirtual 62, 3) := by decide +kernel
theorem dX0_differ_16 : decode cX0_differ 16 = .ok (.if_icmp .eq 5, 3) := by decide +kernel
theorem dX0_differ_19 : decode cX0_differ 19 = .ok (.iconst 1, 1) := by decide +kernel
theorem dX0_differ_20 : decode cX0_differ 20 = .ok (.ireturn, 1) := by decide +kernel
theorem dX0_differ_21 : decode cX0_differ 21 = .ok (.iload 4, 2) := by decide +kernel
theorem dX0_differ_23 : decode cX0_differ 23 = .ok (.ifCond .eq 22, 3) := by decide +kernel
theorem dX0_differ_26 : decode cX0_differ 26 = .ok (.aload_n 0, 1) := by decide +kernel
theorem dX0_differ_27 : decode cX0_differ 27 = .ok (.iload_n 1, 1) := by decide +kernel
theorem dX0_differ_28 : decode cX0_differ 28 = .ok (.iload_n 3, 1) := by decide +kernel
theorem dX0_differ_29 : decode cX0_differ 29 = .ok (.invokevirtual 65, 3) := by decide +kernel
theorem dX0_differ_32 : decode cX0_differ 32 = .ok (.aload_n 0, 1) := by decide +kernel
theorem dX0_differ_33 : decode cX0_differ 33 = .ok (.iload_n 2, 1) := by decide +kernel
theorem dX0_differ_34 : decode cX0_differ 34 = .ok (.iload_n 3, 1) := by decide +kernel
theorem dX0_differ_35 : decode cX0_differ 35 = .ok (.invokevirtual 65, 3) := by decide +kernel
theorem dX0_differ_38 : decode cX0_differ 38 = .ok (.if_icmp .eq 7, 3) := by decide +kernel
theorem dX0_differ_41 : decode cX0_differ 41 = .ok (.iconst 1, 1) := by decide +kernel
theorem dX0_differ_42 : decode cX0_differ 42 = .ok (.goto 4, 3) := by decide +kernel
theorem dX0_differ_45 : decode cX0_differ 45 = .ok (.iconst 0, 1) := by decide +kernel
theorem dX0_differ_46 : decode cX0_differ 46 = .ok (.ireturn, 1) := by decide +kernel
theorem dX0_startsRun_0 : decode cX0_startsRun 0 = .ok (.aload_n 0, 1) := by decide +kernel
theorem dX0_startsRun_1 : decode cX0_startsRun 1 = .ok (.iload_n 1, 1) := by decide +kernel
theorem dX0_startsRun_2 : decode cX0_startsRun 2 = .ok (.iload_n 2, 1) := by decide +kernel
theorem dX0_startsRun_3 : decode cX0_startsRun 3 = .ok (.invokevirtual 62, 3) := by decide +kernel
theorem dX0_startsRun_6 : decode cX0_startsRun 6 = .ok (.ifCond .eq 16, 3) := by decide +kernel
theorem dX0_startsRun_9 : decode cX0_startsRun 9 = .ok (.aload_n 0, 1) := by decide +kernel
theorem dX0_startsRun_10 : decode cX0_startsRun 10 = .ok (.iload_n 1, 1) := by decide +kernel
theorem dX0_startsRun_11 : decode cX0_startsRun 11 = .ok (.iload_n 2, 1) := by decide +kernel
theorem dX0_startsRun_12 : decode cX0_startsRun 12 = .ok (.invokevirtual 68, 3) := by decide +kernel
theorem dX0_startsRun_15 : decode cX0_startsRun 15 = .ok (.ifCond .ne 7, 3) := by decide +kernel
theorem dX0_startsRun_18 : decode cX0_startsRun 18 = .ok (.iconst 1, 1) := by decide +kernel
theorem dX0_startsRun_19 : decode cX0_startsRun 19 = .ok (.goto 4, 3) := by decide +kernel
theorem dX0_startsRun_22 : decode cX0_startsRun 22 = .ok (.iconst 0, 1) := by decide +kernel
theorem dX0_startsRun_23 : decode cX0_startsRun 23 = .ok (.ireturn, 1) := by decide +kernel
theorem dX0_continuesRun_0 : decode cX0_continuesRun 0 = .ok (.iload_n 2, 1) := by decide +kernel
theorem dX0_continuesRun_1 : decode cX0_continuesRun 1 = .ok (.ifCond .eq 19, 3) := by decide +kernel
theorem dX0_continuesRun_4 : decode cX0_continuesRun 4 = .ok (.aload_n 0, 1) := by decide +kernel
theorem dX0_continuesRun_5 : decode cX0_continuesRun 5 = .ok (.getfield 15, 3) := by decide +kernel
theorem dX0_continuesRun_8 : decode cX0_continuesRun 8 = .ok (.iload_n 1, 1) := by decide +kernel
theorem dX0_continuesRun_9 : decode cX0_continuesRun 9 = .ok (.iaload, 1) := by decide +kernel
theorem dX0_continuesRun_10 : decode cX0_continuesRun 10 = .ok (.iload_n 2, 1) := by decide +kernel
theorem dX0_continuesRun_11 : decode cX0_continuesRun 11 = .ok (.iconst 1, 1) := by decide +kernel
theorem dX0_continuesRun_12 : decode cX0_continuesRun 12 = .ok (.isub, 1) := by decide +kernel
theorem dX0_continuesRun_13 : decode cX0_continuesRun 13 = .ok (.iushr, 1) := by decide +kernel
theorem dX0_continuesRun_14 : decode cX0_continuesRun 14 = .ok (.iconst 3, 1) := by decide +kernel
theorem dX0_continuesRun_15 : decode cX0_continuesRun 15 = .ok (.iand, 1) := by decide +kernel
theorem dX0_continuesRun_16 : decode cX0_continuesRun 16 = .ok (.iconst 3, 1) := by decide +kernel
theorem dX0_continuesRun_17 : decode cX0_continuesRun 17 = .ok (.if_icmp .eq 5, 3) := by decide +kernel
theorem dX0_continuesRun_20 : decode cX0_continuesRun 20 = .ok (.iconst 0, 1) := by decide +kernel
theorem dX0_continuesRun_21 : decode cX0_continuesRun 21 = .ok (.ireturn, 1) := by decide +kernel
theorem dX0_continuesRun_22 : decode cX0_continuesRun 22 = .ok (.iload_n 1, 1) := by decide +kernel
theorem dX0_continuesRun_23 : decode cX0_continuesRun 23 = .ok (.bipush 32, 2) := by decide +kernel
theorem dX0_continuesRun_25 : decode cX0_continuesRun 25 = .ok (.imul, 1) := by decide +kernel
theorem dX0_continuesRun_26 : decode cX0_continuesRun 26 = .ok (.iload_n 2, 1) := by decide +kernel
theorem dX0_continuesRun_27 : decode cX0_continuesRun 27 = .ok (.iadd, 1) := by decide +kernel
theorem dX0_continuesRun_28 : decode cX0_continuesRun 28 = .ok (.istore_n 3, 1) := by decide +kernel
theorem dX0_continuesRun_29 : decode cX0_continuesRun 29 = .ok (.aload_n 0, 1) := by decide +kernel
theorem dX0_continuesRun_30 : decode cX0_continuesRun 30 = .ok (.getfield 9, 3) := by decide +kernel
theorem dX0_continuesRun_33 : decode cX0_continuesRun 33 = .ok (.iload_n 3, 1) := by decide +kernel
theorem dX0_continuesRun_34 : decode cX0_continuesRun 34 = .ok (.iaload, 1) := by decide +kernel
theorem dX0_continuesRun_35 : decode cX0_continuesRun 35 = .ok (.aload_n 0, 1) := by decide +kernel
theorem dX0_continuesRun_36 : decode cX0_continuesRun 36 = .ok (.getfield 9, 3) := by decide +kernel
theorem dX0_continuesRun_39 : decode cX0_continuesRun 39 = .ok (.iload_n 3, 1) := by decide +kernel
theorem dX0_continuesRun_40 : decode cX0_continuesRun 40 = .ok (.iconst 1, 1) := by decide +kernel
theorem dX0_continuesRun_41 : decode cX0_continuesRun 41 = .ok (.isub, 1) := by decide +kernel
theorem dX0_continuesRun_42 : decode cX0_continuesRun 42 = .ok (.iaload, 1) := by decide +kernel
theorem dX0_continuesRun_43 : decode cX0_continuesRun 43 = .ok (.if_icmp .ne 7, 3) := by decide +kernel
theorem dX0_continuesRun_46 : decode cX0_continuesRun 46 = .ok (.iconst 1, 1) := by decide +kernel
theorem dX0_continuesRun_47 : decode cX0_continuesRun 47 = .ok (.goto 4, 3) := by decide +kernel
theorem dX0_continuesRun_50 : decode cX0_continuesRun 50 = .ok (.iconst 0, 1) := by decide +kernel
theorem dX0_continuesRun_51 : decode cX0_continuesRun 51 = .ok (.ireturn, 1) := by decide +kernel
theorem dX0_runEnd_0 : decode cX0_runEnd 0 = .ok (.iload_n 2, 1) := by decide +kernel
theorem dX0_runEnd_1 : decode cX0_runEnd 1 = .ok (.iconst 1, 1) := by decide +kernel
theorem dX0_runEnd_2 : decode cX0_runEnd 2 = .ok (.iadd, 1) := by decide +kernel
theorem dX0_runEnd_3 : decode cX0_runEnd 3 = .ok (.istore_n 3, 1) := by decide +kernel
theorem dX0_runEnd_4 : decode cX0_runEnd 4 = .ok (.iload_n 3, 1) := by decide +kernel
theorem dX0_runEnd_5 : decode cX0_runEnd 5 = .ok (.bipush 32, 2) := by decide +kernel
theorem dX0_runEnd_7 : decode cX0_runEnd 7 = .ok (.if_icmp .ge 18, 3) := by decide +kernel
theorem dX0_runEnd_10 : decode cX0_runEnd 10 = .ok (.aload_n 0, 1) := by decide +kernel
theorem dX0_runEnd_11 : decode cX0_runEnd 11 = .ok (.iload_n 1, 1) := by decide +kernel
theorem dX0_runEnd_12 : decode cX0_runEnd 12 = .ok (.iload_n 3, 1) := by decide +kernel
theorem dX0_runEnd_13 : decode cX0_runEnd 13 = .ok (.invokevirtual 68, 3) := by decide +kernel
theorem dX0_runEnd_16 : decode cX0_runEnd 16 = .ok (.ifCond .eq 9, 3) := by decide +kernel
theorem dX0_runEnd_19 : decode cX0_runEnd 19 = .ok (.iinc 3 1, 3) := by decide +kernel
theorem dX0_runEnd_22 : decode cX0_runEnd 22 = .ok (.goto (-18), 3) := by decide +kernel
theorem dX0_runEnd_25 : decode cX0_runEnd 25 = .ok (.iload_n 3, 1) := by decide +kernel
theorem dX0_runEnd_26 : decode cX0_runEnd 26 = .ok (.ireturn, 1) := by decide +kernel
theorem dX0_countRuns_0 : decode cX0_countRuns 0 = .ok (.iconst 0, 1) := by decide +kernel
theorem dX0_countRuns_1 : decode cX0_countRuns 1 = .ok (.istore_n 2, 1) := by decide +kernel
theorem dX0_countRuns_2 : decode cX0_countRuns 2 = .ok (.iconst 0, 1) := by decide +kernel
theorem dX0_countRuns_3 : decode cX0_countRuns 3 = .ok (.istore_n 3, 1) := by decide +kernel
theorem dX0_countRuns_4 : decode cX0_countRuns 4 = .ok (.iload_n 3, 1) := by decide +kernel
theorem dX0_countRuns_5 : decode cX0_countRuns 5 = .ok (.bipush 32, 2) := by decide +kernel
theorem dX0_countRuns_7 : decode cX0_countRuns 7 = .ok (.if_icmp .ge 21, 3) := by decide +kernel
theorem dX0_countRuns_10 : decode cX0_countRuns 10 = .ok (.aload_n 0, 1) := by decide +kernel
theorem dX0_countRuns_11 : decode cX0_countRuns 11 = .ok (.iload_n 1, 1) := by decide +kernel
theorem dX0_countRuns_12 : decode cX0_countRuns 12 = .ok (.iload_n 3, 1) := by decide +kernel
theorem dX0_countRuns_13 : decode cX0_countRuns 13 = .ok (.invokevirtual 71, 3) := by decide +kernel
theorem dX0_countRuns_16 : decode cX0_countRuns 16 = .ok (.ifCond .eq 6, 3) := by decide +kernel
theorem dX0_countRuns_19 : decode cX0_countRuns 19 = .ok (.iinc 2 1, 3) := by decide +kernel
theorem dX0_countRuns_22 : decode cX0_countRuns 22 = .ok (.iinc 3 1, 3) := by decide +kernel
theorem dX0_countRuns_25 : decode cX0_countRuns 25 = .ok (.goto (-21), 3) := by decide +kernel
theorem dX0_countRuns_28 : decode cX0_countRuns 28 = .ok (.iload_n 2, 1) := by decide +kernel
theorem dX0_countRuns_29 : decode cX0_countRuns 29 = .ok (.ireturn, 1) := by decide +kernel
theorem dX0_runStart_0 : decode cX0_runStart 0 = .ok (.iconst 0, 1) := by decide +kernel
theorem dX0_runStart_1 : decode cX0_runStart 1 = .ok (.istore_n 3, 1) := by decide +kernel
theorem dX0_runStart_2 : decode cX0_runStart 2 = .ok (.iconst 0, 1) := by decide +kernel
theorem dX0_runStart_3 : decode cX0_runStart 3 = .ok (.istore 4, 2) := by decide +kernel
theorem dX0_runStart_5 : decode cX0_runStart 5 = .ok (.iload 4, 2) := by decide +kernel
theorem dX0_runStart_7 : decode cX0_runStart 7 = .ok (.bipush 32, 2) := by decide +kernel
theorem dX0_runStart_9 : decode cX0_runStart 9 = .ok (.if_icmp .ge 30, 3) := by decide +kernel
theorem dX0_runStart_12 : decode cX0_runStart 12 = .ok (.aload_n 0, 1) := by decide +kernel
theorem dX0_runStart_13 : decode cX0_runStart 13 = .ok (.iload_n 1, 1) := by decide +kernel
theorem dX0_runStart_14 : decode cX0_runStart 14 = .ok (.iload 4, 2) := by decide +kernel
theorem dX0_runStart_16 : decode cX0_runStart 16 = .ok (.invokevirtual 71, 3) := by decide +kernel
theorem dX0_runStart_19 : decode cX0_runStart 19 = .ok (.ifCond .eq 14, 3) := by decide +kernel
theorem dX0_runStart_22 : decode cX0_runStart 22 = .ok (.iload_n 3, 1) := by decide +kernel
theorem dX0_runStart_23 : decode cX0_runStart 23 = .ok (.iload_n 2, 1) := by decide +kernel
theorem dX0_runStart_24 : decode cX0_runStart 24 = .ok (.if_icmp .ne 6, 3) := by decide +kernel
theorem dX0_runStart_27 : decode cX0_runStart 27 = .ok (.iload 4, 2) := by decide +kernel
theorem dX0_runStart_29 : decode cX0_runStart 29 = .ok (.ireturn, 1) := by decide +kernel
theorem dX0_runStart_30 : decode cX0_runStart 30 = .ok (.iinc 3 1, 3) := by decide +kernel
theorem dX0_runStart_33 : decode cX0_runStart 33 = .ok (.iinc 4 1, 3) := by decide +kernel
theorem dX0_runStart_36 : decode cX0_runStart 36 = .ok (.goto (-31), 3) := by decide +kernel
theorem dX0_runStart_39 : decode cX0_runStart 39 = .ok (.iconst (-1), 1) := by decide +kernel
theorem dX0_runStart_40 : decode cX0_runStart 40 = .ok (.ireturn, 1) := by decide +kernel
theorem dX0_countRelated_0 : decode cX0_countRelated 0 = .ok (.iconst 0, 1) := by decide +kernel
theorem dX0_countRelated_1 : decode cX0_countRelated 1 = .ok (.istore 5, 2) := by decide +kernel
theorem dX0_countRelated_3 : decode cX0_countRelated 3 = .ok (.iconst 0, 1) := by decide +kernel
theorem dX0_countRelated_4 : decode cX0_countRelated 4 = .ok (.istore 6, 2) := by decide +kernel
theorem dX0_countRelated_6 : decode cX0_countRelated 6 = .ok (.iload 6, 2) := by decide +kernel
theorem dX0_countRelated_8 : decode cX0_countRelated 8 = .ok (.bipush 32, 2) := by decide +kernel
theorem dX0_countRelated_10 : decode cX0_countRelated 10 = .ok (.if_icmp .ge 41, 3) := by decide +kernel
theorem dX0_countRelated_13 : decode cX0_countRelated 13 = .ok (.aload_n 0, 1) := by decide +kernel
theorem dX0_countRelated_14 : decode cX0_countRelated 14 = .ok (.iload_n 3, 1) := by decide +kernel
theorem dX0_countRelated_15 : decode cX0_countRelated 15 = .ok (.iload 6, 2) := by decide +kernel
theorem dX0_countRelated_17 : decode cX0_countRelated 17 = .ok (.invokevirtual 71, 3) := by decide +kernel
theorem dX0_countRelated_20 : decode cX0_countRelated 20 = .ok (.ifCond .eq 25, 3) := by decide +kernel
theorem dX0_countRelated_23 : decode cX0_countRelated 23 = .ok (.iload_n 1, 1) := by decide +kernel
theorem dX0_countRelated_24 : decode cX0_countRelated 24 = .ok (.iload_n 2, 1) := by decide +kernel
theorem dX0_countRelated_25 : decode cX0_countRelated 25 = .ok (.iload 6, 2) := by decide +kernel
theorem dX0_countRelated_27 : decode cX0_countRelated 27 = .ok (.aload_n 0, 1) := by decide +kernel
theorem dX0_countRelated_28 : decode cX0_countRelated 28 = .ok (.iload_n 3, 1) := by decide +kernel
theorem dX0_countRelated_29 : decode cX0_countRelated 29 = .ok (.iload 6, 2) := by decide +kernel
theorem dX0_countRelated_31 : decode cX0_countRelated 31 = .ok (.invokevirtual 74, 3) := by decide +kernel
theorem dX0_countRelated_34 : decode cX0_countRelated 34 = .ok (.invokestatic 77, 3) := by decide +kernel
theorem dX0_countRelated_37 : decode cX0_countRelated 37 = .ok (.iload 4, 2) := by decide +kernel
theorem dX0_countRelated_39 : decode cX0_countRelated 39 = .ok (.if_icmp .ne 6, 3) := by decide +kernel
theorem dX0_countRelated_42 : decode cX0_countRelated 42 = .ok (.iinc 5 1, 3) := by decide +kernel
theorem dX0_countRelated_45 : decode cX0_countRelated 45 = .ok (.iinc 6 1, 3) := by decide +kernel
theorem dX0_countRelated_48 : decode cX0_countRelated 48 = .ok (.goto (-42), 3) := by decide +kernel
theorem dX0_countRelated_51 : decode cX0_countRelated 51 = .ok (.iload 5, 2) := by decide +kernel
theorem dX0_countRelated_53 : decode cX0_countRelated 53 = .ok (.ireturn, 1) := by decide +kernel
theorem dX0_countRows_0 : decode cX0_countRows 0 = .ok (.iconst 0, 1) := by decide +kernel
theorem dX0_countRows_1 : decode cX0_countRows 1 = .ok (.istore_n 1, 1) := by decide +kernel
theorem dX0_countRows_2 : decode cX0_countRows 2 = .ok (.iconst 0, 1) := by decide +kernel
theorem dX0_countRows_3 : decode cX0_countRows 3 = .ok (.istore_n 2, 1) := by decide +kernel
theorem dX0_countRows_4 : decode cX0_countRows 4 = .ok (.iload_n 2, 1) := by decide +kernel
theorem dX0_countRows_5 : decode cX0_countRows 5 = .ok (.aload_n 0, 1) := by decide +kernel
theorem dX0_countRows_6 : decode cX0_countRows 6 = .ok (.getfield 21, 3) := by decide +kernel
theorem dX0_countRows_9 : decode cX0_countRows 9 = .ok (.iconst 1, 1) := by decide +kernel
theorem dX0_countRows_10 : decode cX0_countRows 10 = .ok (.iadd, 1) := by decide +kernel
theorem dX0_countRows_11 : decode cX0_countRows 11 = .ok (.iconst 4, 1) := by decide +kernel
theorem dX0_countRows_12 : decode cX0_countRows 12 = .ok (.imul, 1) := by decide +kernel
theorem dX0_countRows_13 : decode cX0_countRows 13 = .ok (.if_icmp .ge 18, 3) := by decide +kernel
theorem dX0_countRows_16 : decode cX0_countRows 16 = .ok (.iload_n 1, 1) := by decide +kernel
theorem dX0_countRows_17 : decode cX0_countRows 17 = .ok (.aload_n 0, 1) := by decide +kernel
theorem dX0_countRows_18 : decode cX0_countRows 18 = .ok (.getfield 18, 3) := by decide +kernel
theorem dX0_countRows_21 : decode cX0_countRows 21 = .ok (.iload_n 2, 1) := by decide +kernel
theorem dX0_countRows_22 : decode cX0_countRows 22 = .ok (.iaload, 1) := by decide +kernel
theorem dX0_countRows_23 : decode cX0_countRows 23 = .ok (.iadd, 1) := by decide +kernel
theorem dX0_countRows_24 : decode cX0_countRows 24 = .ok (.istore_n 1, 1) := by decide +kernel
theorem dX0_countRows_25 : decode cX0_countRows 25 = .ok (.iinc 2 1, 3) := by decide +kernel
theorem dX0_countRows_28 : decode cX0_countRows 28 = .ok (.goto (-24), 3) := by decide +kernel
theorem dX0_countRows_31 : decode cX0_countRows 31 = .ok (.iload_n 1, 1) := by decide +kernel
theorem dX0_countRows_32 : decode cX0_countRows 32 = .ok (.ireturn, 1) := by decide +kernel
theorem dX0_recountRows_0 : decode cX0_recountRows 0 = .ok (.aload_n 0, 1) := by decide +kernel
theorem dX0_recountRows_1 : decode cX0_recountRows 1 = .ok (.getfield 21, 3) := by decide +kernel
theorem dX0_recountRows_4 : decode cX0_recountRows 4 = .ok (.iload_n 1, 1) := by decide +kernel
theorem dX0_recountRows_5 : decode cX0_recountRows 5 = .ok (.invokestatic 47, 3) := by decide +kernel
theorem dX0_recountRows_8 : decode cX0_recountRows 8 = .ok (.istore_n 2, 1) := by decide +kernel
theorem dX0_recountRows_9 : decode cX0_recountRows 9 = .ok (.iconst 0, 1) := by decide +kernel
theorem dX0_recountRows_10 : decode cX0_recountRows 10 = .ok (.istore_n 3, 1) := by decide +kernel
theorem dX0_recountRows_11 : decode cX0_recountRows 11 = .ok (.iconst 0, 1) := by decide +kernel
theorem dX0_recountRows_12 : decode cX0_recountRows 12 = .ok (.istore 4, 2) := by decide +kernel
theorem dX0_recountRows_14 : decode cX0_recountRows 14 = .ok (.iload 4, 2) := by decide +kernel
theorem dX0_recountRows_16 : decode cX0_recountRows 16 = .ok (.bipush 32, 2) := by decide +kernel
theorem dX0_recountRows_18 : decode cX0_recountRows 18 = .ok (.if_icmp .ge 22, 3) := by decide +kernel
theorem dX0_recountRows_21 : decode cX0_recountRows 21 = .ok (.aload_n 0, 1) := by decide +kernel
theorem dX0_recountRows_22 : decode cX0_recountRows 22 = .ok (.iload_n 2, 1) := by decide +kernel
theorem dX0_recountRows_23 : decode cX0_recountRows 23 = .ok (.iload 4, 2) := by decide +kernel
theorem dX0_recountRows_25 : decode cX0_recountRows 25 = .ok (.invokevirtual 81, 3) := by decide +kernel
theorem dX0_recountRows_28 : decode cX0_recountRows 28 = .ok (.ifCond .eq 6, 3) := by decide +kernel
theorem dX0_recountRows_31 : decode cX0_recountRows 31 = .ok (.iinc 3 1, 3) := by decide +kernel
theorem dX0_recountRows_34 : decode cX0_recountRows 34 = .ok (.iinc 4 1, 3) := by decide +kernel
theorem dX0_recountRows_37 : decode cX0_recountRows 37 = .ok (.goto (-23), 3) := by decide +kernel
theorem dX0_recountRows_40 : decode cX0_recountRows 40 = .ok (.aload_n 0, 1) := by decide +kernel
theorem dX0_recountRows_41 : decode cX0_recountRows 41 = .ok (.getfield 18, 3) := by decide +kernel
theorem dX0_recountRows_44 : decode cX0_recountRows 44 = .ok (.iload_n 2, 1) := by decide +kernel
theorem dX0_recountRows_45 : decode cX0_recountRows 45 = .ok (.iload_n 3, 1) := by decide +kernel
theorem dX0_recountRows_46 : decode cX0_recountRows 46 = .ok (.iastore, 1) := by decide +kernel
theorem dX0_recountRows_47 : decode cX0_recountRows 47 = .ok (.return_, 1) := by decide +kernel
theorem dX0_startsRow_0 : decode cX0_startsRow 0 = .ok (.aload_n 0, 1) := by decide +kernel
theorem dX0_startsRow_1 : decode cX0_startsRow 1 = .ok (.iload_n 1, 1) := by decide +kernel
theorem dX0_startsRow_2 : decode cX0_startsRow 2 = .ok (.iload_n 2, 1) := by decide +kernel
theorem dX0_startsRow_3 : decode cX0_startsRow 3 = .ok (.invokevirtual 71, 3) := by decide +kernel
theorem dX0_startsRow_6 : decode cX0_startsRow 6 = .ok (.ifCond .ne 5, 3) := by decide +kernel
theorem dX0_startsRow_9 : decode cX0_startsRow 9 = .ok (.iconst 0, 1) := by decide +kernel
theorem dX0_startsRow_10 : decode cX0_startsRow 10 = .ok (.ireturn, 1) := by decide +kernel
theorem dX0_startsRow_11 : decode cX0_startsRow 11 = .ok (.iload_n 1, 1) := by decide +kernel
theorem dX0_startsRow_12 : decode cX0_startsRow 12 = .ok (.iconst 4, 1) := by decide +kernel
theorem dX0_startsRow_13 : decode cX0_startsRow 13 = .ok (.if_icmp .lt 15, 3) := by decide +kernel
theorem dX0_startsRow_16 : decode cX0_startsRow 16 = .ok (.aload_n 0, 1) := by decide +kernel
theorem dX0_startsRow_17 : decode cX0_startsRow 17 = .ok (.iload_n 1, 1) := by decide +kernel
theorem dX0_startsRow_18 : decode cX0_startsRow 18 = .ok (.iload_n 1, 1) := by decide +kernel
theorem dX0_startsRow_19 : decode cX0_startsRow 19 = .ok (.iconst 4, 1) := by decide +kernel
theorem dX0_startsRow_20 : decode cX0_startsRow 20 = .ok (.isub, 1) := by decide +kernel
theorem dX0_startsRow_21 : decode cX0_startsRow 21 = .ok (.iload_n 2, 1) := by decide +kernel
theorem dX0_startsRow_22 : decode cX0_startsRow 22 = .ok (.invokevirtual 84, 3) := by decide +kernel
theorem dX0_startsRow_25 : decode cX0_startsRow 25 = .ok (.ifCond .ne 7, 3) := by decide +kernel
theorem dX0_startsRow_28 : decode cX0_startsRow 28 = .ok (.iconst 1, 1) := by decide +kernel
theorem dX0_startsRow_29 : decode cX0_startsRow 29 = .ok (.goto 4, 3) := by decide +kernel
theorem dX0_startsRow_32 : decode cX0_startsRow 32 = .ok (.iconst 0, 1) := by decide +kernel
theorem dX0_startsRow_33 : decode cX0_startsRow 33 = .ok (.ireturn, 1) := by decide +kernel
theorem dX0_sharesRun_0 : decode cX0_sharesRun 0 = .ok (.aload_n 0, 1) := by decide +kernel
theorem dX0_sharesRun_1 : decode cX0_sharesRun 1 = .ok (.iload_n 2, 1) := by decide +kernel
theorem dX0_sharesRun_2 : decode cX0_sharesRun 2 = .ok (.iload_n 3, 1) := by decide +kernel
theorem dX0_sharesRun_3 : decode cX0_sharesRun 3 = .ok (.invokevirtual 71, 3) := by decide +kernel
theorem dX0_sharesRun_6 : decode cX0_sharesRun 6 = .ok (.ifCond .eq 37, 3) := by decide +kernel
theorem dX0_sharesRun_9 : decode cX0_sharesRun 9 = .ok (.aload_n 0, 1) := by decide +kernel
theorem dX0_sharesRun_10 : decode cX0_sharesRun 10 = .ok (.iload_n 2, 1) := by decide +kernel
theorem dX0_sharesRun_11 : decode cX0_sharesRun 11 = .ok (.iload_n 3, 1) := by decide +kernel
theorem dX0_sharesRun_12 : decode cX0_sharesRun 12 = .ok (.invokevirtual 65, 3) := by decide +kernel
theorem dX0_sharesRun_15 : decode cX0_sharesRun 15 = .ok (.aload_n 0, 1) := by decide +kernel
theorem dX0_sharesRun_16 : decode cX0_sharesRun 16 = .ok (.iload_n 1, 1) := by decide +kernel
theorem dX0_sharesRun_17 : decode cX0_sharesRun 17 = .ok (.iload_n 3, 1) := by decide +kernel
theorem dX0_sharesRun_18 : decode cX0_sharesRun 18 = .ok (.invokevirtual 65, 3) := by decide +kernel
theorem dX0_sharesRun_21 : decode cX0_sharesRun 21 = .ok (.if_icmp .ne 22, 3) := by decide +kernel
theorem dX0_sharesRun_24 : decode cX0_sharesRun 24 = .ok (.aload_n 0, 1) := by decide +kernel
theorem dX0_sharesRun_25 : decode cX0_sharesRun 25 = .ok (.iload_n 2, 1) := by decide +kernel
theorem dX0_sharesRun_26 : decode cX0_sharesRun 26 = .ok (.iload_n 3, 1) := by decide +kernel
theorem dX0_sharesRun_27 : decode cX0_sharesRun 27 = .ok (.invokevirtual 74, 3) := by decide +kernel
theorem dX0_sharesRun_30 : decode cX0_sharesRun 30 = .ok (.aload_n 0, 1) := by decide +kernel
theorem dX0_sharesRun_31 : decode cX0_sharesRun 31 = .ok (.iload_n 1, 1) := by decide +kernel
theorem dX0_sharesRun_32 : decode cX0_sharesRun 32 = .ok (.iload_n 3, 1) := by decide +kernel
theorem dX0_sharesRun_33 : decode cX0_sharesRun 33 = .ok (.invokevirtual 74, 3) := by decide +kernel
theorem dX0_sharesRun_36 : decode cX0_sharesRun 36 = .ok (.if_icmp .ne 7, 3) := by decide +kernel
theorem dX0_sharesRun_39 : decode cX0_sharesRun 39 = .ok (.iconst 1, 1) := by decide +kernel
theorem dX0_sharesRun_40 : decode cX0_sharesRun 40 = .ok (.goto 4, 3) := by decide +kernel
theorem dX0_sharesRun_43 : decode cX0_sharesRun 43 = .ok (.iconst 0, 1) := by decide +kernel
theorem dX0_sharesRun_44 : decode cX0_sharesRun 44 = .ok (.ireturn, 1) := by decide +kernel
theorem dX0_rowPart_0 : decode cX0_rowPart 0 = .ok (.iload_n 1, 1) := by decide +kernel
theorem dX0_rowPart_1 : decode cX0_rowPart 1 = .ok (.istore_n 3, 1) := by decide +kernel
theorem dX0_rowPart_2 : decode cX0_rowPart 2 = .ok (.iconst 0, 1) := by decide +kernel
theorem dX0_rowPart_3 : decode cX0_rowPart 3 = .ok (.istore 4, 2) := by decide +kernel
theorem dX0_rowPart_5 : decode cX0_rowPart 5 = .ok (.iload 4, 2) := by decide +kernel
theorem dX0_rowPart_7 : decode cX0_rowPart 7 = .ok (.iconst 4, 1) := by decide +kernel
theorem dX0_rowPart_8 : decode cX0_rowPart 8 = .ok (.if_icmp .ge 74, 3) := by decide +kernel
theorem dX0_rowPart_11 : decode cX0_rowPart 11 = .ok (.iconst 0, 1) := by decide +kernel
theorem dX0_rowPart_12 : decode cX0_rowPart 12 = .ok (.istore 5, 2) := by decide +kernel
theorem dX0_rowPart_14 : decode cX0_rowPart 14 = .ok (.iload 5, 2) := by decide +kernel
theorem dX0_rowPart_16 : decode cX0_rowPart 16 = .ok (.aload_n 0, 1) := by decide +kernel
theorem dX0_rowPart_17 : decode cX0_rowPart 17 = .ok (.getfield 21, 3) := by decide +kernel
theorem dX0_rowPart_20 : decode cX0_rowPart 20 = .ok (.if_icmp .gt 56, 3) := by decide +kernel
theorem dX0_rowPart_23 : decode cX0_rowPart 23 = .ok (.aload_n 0, 1) := by decide +kernel
theorem dX0_rowPart_24 : decode cX0_rowPart 24 = .ok (.getfield 18, 3) := by decide +kernel
theorem dX0_rowPart_27 : decode cX0_rowPart 27 = .ok (.iload 5, 2) := by decide +kernel
theorem dX0_rowPart_29 : decode cX0_rowPart 29 = .ok (.iload 4, 2) := by decide +kernel
theorem dX0_rowPart_31 : decode cX0_rowPart 31 = .ok (.invokestatic 47, 3) := by decide +kernel
theorem dX0_rowPart_34 : decode cX0_rowPart 34 = .ok (.iaload, 1) := by decide +kernel
theorem dX0_rowPart_35 : decode cX0_rowPart 35 = .ok (.istore 6, 2) := by decide +kernel
theorem dX0_rowPart_37 : decode cX0_rowPart 37 = .ok (.iload_n 3, 1) := by decide +kernel
theorem dX0_rowPart_38 : decode cX0_rowPart 38 = .ok (.iload 6, 2) := by decide +kernel
theorem dX0_rowPart_40 : decode cX0_rowPart 40 = .ok (.if_icmp .ge 25, 3) := by decide +kernel
theorem dX0_rowPart_43 : decode cX0_rowPart 43 = .ok (.aload_n 0, 1) := by decide +kernel
theorem dX0_rowPart_44 : decode cX0_rowPart 44 = .ok (.iload 5, 2) := by decide +kernel
theorem dX0_rowPart_46 : decode cX0_rowPart 46 = .ok (.iload 4, 2) := by decide +kernel
theorem dX0_rowPart_48 : decode cX0_rowPart 48 = .ok (.aload_n 0, 1) := by decide +kernel
theorem dX0_rowPart_49 : decode cX0_rowPart 49 = .ok (.iload 5, 2) := by decide +kernel
theorem dX0_rowPart_51 : decode cX0_rowPart 51 = .ok (.iload 4, 2) := by decide +kernel
theorem dX0_rowPart_53 : decode cX0_rowPart 53 = .ok (.invokestatic 47, 3) := by decide +kernel
theorem dX0_rowPart_56 : decode cX0_rowPart 56 = .ok (.iload_n 3, 1) := by decide +kernel
theorem dX0_rowPart_57 : decode cX0_rowPart 57 = .ok (.invokevirtual 88, 3) := by decide +kernel
theorem dX0_rowPart_60 : decode cX0_rowPart 60 = .ok (.iload_n 2, 1) := by decide +kernel
theorem dX0_rowPart_61 : decode cX0_rowPart 61 = .ok (.invokevirtual 91, 3) := by decide +kernel
theorem dX0_rowPart_64 : decode cX0_rowPart 64 = .ok (.ireturn, 1) := by decide +kernel
theorem dX0_rowPart_65 : decode cX0_rowPart 65 = .ok (.iload_n 3, 1) := by decide +kernel
theorem dX0_rowPart_66 : decode cX0_rowPart 66 = .ok (.iload 6, 2) := by decide +kernel
theorem dX0_rowPart_68 : decode cX0_rowPart 68 = .ok (.isub, 1) := by decide +kernel
theorem dX0_rowPart_69 : decode cX0_rowPart 69 = .ok (.istore_n 3, 1) := by decide +kernel
theorem dX0_rowPart_70 : decode cX0_rowPart 70 = .ok (.iinc 5 1, 3) := by decide +kernel
theorem dX0_rowPart_73 : decode cX0_rowPart 73 = .ok (.goto (-59), 3) := by decide +kernel
theorem dX0_rowPart_76 : decode cX0_rowPart 76 = .ok (.iinc 4 1, 3) := by decide +kernel
theorem dX0_rowPart_79 : decode cX0_rowPart 79 = .ok (.goto (-74), 3) := by decide +kernel
theorem dX0_rowPart_82 : decode cX0_rowPart 82 = .ok (.iconst (-1), 1) := by decide +kernel
theorem dX0_rowPart_83 : decode cX0_rowPart 83 = .ok (.ireturn, 1) := by decide +kernel
theorem dX0_rowStart_0 : decode cX0_rowStart 0 = .ok (.iconst 0, 1) := by decide +kernel
theorem dX0_rowStart_1 : decode cX0_rowStart 1 = .ok (.istore_n 3, 1) := by decide +kernel
theorem dX0_rowStart_2 : decode cX0_rowStart 2 = .ok (.iconst 0, 1) := by decide +kernel
theorem dX0_rowStart_3 : decode cX0_rowStart 3 = .ok (.istore 4, 2) := by decide +kernel
theorem dX0_rowStart_5 : decode cX0_rowStart 5 = .ok (.iload 4, 2) := by decide +kernel
theorem dX0_rowStart_7 : decode cX0_rowStart 7 = .ok (.bipush 32, 2) := by decide +kernel
theorem dX0_rowStart_9 : decode cX0_rowStart 9 = .ok (.if_icmp .ge 30, 3) := by decide +kernel
theorem dX0_rowStart_12 : decode cX0_rowStart 12 = .ok (.aload_n 0, 1) := by decide +kernel
theorem dX0_rowStart_13 : decode cX0_rowStart 13 = .ok (.iload_n 1, 1) := by decide +kernel
theorem dX0_rowStart_14 : decode cX0_rowStart 14 = .ok (.iload 4, 2) := by decide +kernel
theorem dX0_rowStart_16 : decode cX0_rowStart 16 = .ok (.invokevirtual 81, 3) := by decide +kernel
theorem dX0_rowStart_19 : decode cX0_rowStart 19 = .ok (.ifCond .eq 14, 3) := by decide +kernel
theorem dX0_rowStart_22 : decode cX0_rowStart 22 = .ok (.iload_n 3, 1) := by decide +kernel
theorem dX0_rowStart_23 : decode cX0_rowStart 23 = .ok (.iload_n 2, 1) := by decide +kernel
theorem dX0_rowStart_24 : decode cX0_rowStart 24 = .ok (.if_icmp .ne 6, 3) := by decide +kernel
theorem dX0_rowStart_27 : decode cX0_rowStart 27 = .ok (.iload 4, 2) := by decide +kernel
theorem dX0_rowStart_29 : decode cX0_rowStart 29 = .ok (.ireturn, 1) := by decide +kernel
theorem dX0_rowStart_30 : decode cX0_rowStart 30 = .ok (.iinc 3 1, 3) := by decide +kernel
theorem dX0_rowStart_33 : decode cX0_rowStart 33 = .ok (.iinc 4 1, 3) := by decide +kernel
theorem dX0_rowStart_36 : decode cX0_rowStart 36 = .ok (.goto (-31), 3) := by decide +kernel
theorem dX0_rowStart_39 : decode cX0_rowStart 39 = .ok (.iconst 0, 1) := by decide +kernel
theorem dX0_rowStart_40 : decode cX0_rowStart 40 = .ok (.ireturn, 1) := by decide +kernel
theorem dX0_partOfRow_0 : decode cX0_partOfRow 0 = .ok (.iload_n 1, 1) := by decide +kernel
theorem dX0_partOfRow_1 : decode cX0_partOfRow 1 = .ok (.iload_n 2, 1) := by decide +kernel
theorem dX0_partOfRow_2 : decode cX0_partOfRow 2 = .ok (.invokestatic 47, 3) := by decide +kernel
theorem dX0_partOfRow_5 : decode cX0_partOfRow 5 = .ok (.istore 5, 2) := by decide +kernel
theorem dX0_partOfRow_7 : decode cX0_partOfRow 7 = .ok (.iload 4, 2) := by decide +kernel
theorem dX0_partOfRow_9 : decode cX0_partOfRow 9 = .ok (.tableswitch 57 0 4 #[35, 37, 45, 47, 55], 35) := by decide +kernel
theorem dX0_partOfRow_44 : decode cX0_partOfRow 44 = .ok (.iload_n 2, 1) := by decide +kernel
theorem dX0_partOfRow_45 : decode cX0_partOfRow 45 = .ok (.ireturn, 1) := by decide +kernel
theorem dX0_partOfRow_46 : decode cX0_partOfRow 46 = .ok (.aload_n 0, 1) := by decide +kernel
theorem dX0_partOfRow_47 : decode cX0_partOfRow 47 = .ok (.iload 5, 2) := by decide +kernel
theorem dX0_partOfRow_49 : decode cX0_partOfRow 49 = .ok (.iload_n 3, 1) := by decide +kernel
theorem dX0_partOfRow_50 : decode cX0_partOfRow 50 = .ok (.invokevirtual 65, 3) := by decide +kernel
theorem dX0_partOfRow_53 : decode cX0_partOfRow 53 = .ok (.ireturn, 1) := by decide +kernel
theorem dX0_partOfRow_54 : decode cX0_partOfRow 54 = .ok (.iload_n 3, 1) := by decide +kernel
theorem dX0_partOfRow_55 : decode cX0_partOfRow 55 = .ok (.ireturn, 1) := by decide +kernel
theorem dX0_partOfRow_56 : decode cX0_partOfRow 56 = .ok (.aload_n 0, 1) := by decide +kernel
theorem dX0_partOfRow_57 : decode cX0_partOfRow 57 = .ok (.iload 5, 2) := by decide +kernel
theorem dX0_partOfRow_59 : decode cX0_partOfRow 59 = .ok (.iload_n 3, 1) := by decide +kernel
theorem dX0_partOfRow_60 : decode cX0_partOfRow 60 = .ok (.invokevirtual 74, 3) := by decide +kernel
theorem dX0_partOfRow_63 : decode cX0_partOfRow 63 = .ok (.ireturn, 1) := by decide +kernel
theorem dX0_partOfRow_64 : decode cX0_partOfRow 64 = .ok (.iload_n 1, 1) := by decide +kernel
theorem dX0_partOfRow_65 : decode cX0_partOfRow 65 = .ok (.ireturn, 1) := by decide +kernel
theorem dX0_partOfRow_66 : decode cX0_partOfRow 66 = .ok (.aload_n 0, 1) := by decide +kernel
theorem dX0_partOfRow_67 : decode cX0_partOfRow 67 = .ok (.iload_n 1, 1) := by decide +kernel
theorem dX0_partOfRow_68 : decode cX0_partOfRow 68 = .ok (.iload_n 2, 1) := by decide +kernel
theorem dX0_partOfRow_69 : decode cX0_partOfRow 69 = .ok (.iload_n 3, 1) := by decide +kernel
theorem dX0_partOfRow_70 : decode cX0_partOfRow 70 = .ok (.invokevirtual 94, 3) := by decide +kernel
theorem dX0_partOfRow_73 : decode cX0_partOfRow 73 = .ok (.ireturn, 1) := by decide +kernel
theorem dX0_rowEnd_0 : decode cX0_rowEnd 0 = .ok (.iload_n 1, 1) := by decide +kernel
theorem dX0_rowEnd_1 : decode cX0_rowEnd 1 = .ok (.iload_n 2, 1) := by decide +kernel
theorem dX0_rowEnd_2 : decode cX0_rowEnd 2 = .ok (.invokestatic 47, 3) := by decide +kernel
theorem dX0_rowEnd_5 : decode cX0_rowEnd 5 = .ok (.istore 4, 2) := by decide +kernel
theorem dX0_rowEnd_7 : decode cX0_rowEnd 7 = .ok (.iload_n 1, 1) := by decide +kernel
theorem dX0_rowEnd_8 : decode cX0_rowEnd 8 = .ok (.iconst 1, 1) := by decide +kernel
theorem dX0_rowEnd_9 : decode cX0_rowEnd 9 = .ok (.iadd, 1) := by decide +kernel
theorem dX0_rowEnd_10 : decode cX0_rowEnd 10 = .ok (.istore 5, 2) := by decide +kernel
theorem dX0_rowEnd_12 : decode cX0_rowEnd 12 = .ok (.iload 5, 2) := by decide +kernel
theorem dX0_rowEnd_14 : decode cX0_rowEnd 14 = .ok (.aload_n 0, 1) := by decide +kernel
theorem dX0_rowEnd_15 : decode cX0_rowEnd 15 = .ok (.getfield 21, 3) := by decide +kernel
theorem dX0_rowEnd_18 : decode cX0_rowEnd 18 = .ok (.if_icmp .gt 28, 3) := by decide +kernel
theorem dX0_rowEnd_21 : decode cX0_rowEnd 21 = .ok (.aload_n 0, 1) := by decide +kernel
theorem dX0_rowEnd_22 : decode cX0_rowEnd 22 = .ok (.iload 4, 2) := by decide +kernel
theorem dX0_rowEnd_24 : decode cX0_rowEnd 24 = .ok (.iload 5, 2) := by decide +kernel
theorem dX0_rowEnd_26 : decode cX0_rowEnd 26 = .ok (.iload_n 2, 1) := by decide +kernel
theorem dX0_rowEnd_27 : decode cX0_rowEnd 27 = .ok (.invokestatic 47, 3) := by decide +kernel
theorem dX0_rowEnd_30 : decode cX0_rowEnd 30 = .ok (.iload_n 3, 1) := by decide +kernel
theorem dX0_rowEnd_31 : decode cX0_rowEnd 31 = .ok (.invokevirtual 84, 3) := by decide +kernel
theorem dX0_rowEnd_34 : decode cX0_rowEnd 34 = .ok (.ifCond .ne 6, 3) := by decide +kernel
theorem dX0_rowEnd_37 : decode cX0_rowEnd 37 = .ok (.iload 5, 2) := by decide +kernel
theorem dX0_rowEnd_39 : decode cX0_rowEnd 39 = .ok (.ireturn, 1) := by decide +kernel
theorem dX0_rowEnd_40 : decode cX0_rowEnd 40 = .ok (.iinc 5 1, 3) := by decide +kernel
theorem dX0_rowEnd_43 : decode cX0_rowEnd 43 = .ok (.goto (-31), 3) := by decide +kernel
theorem dX0_rowEnd_46 : decode cX0_rowEnd 46 = .ok (.iconst (-1), 1) := by decide +kernel
theorem dX0_rowEnd_47 : decode cX0_rowEnd 47 = .ok (.ireturn, 1) := by decide +kernel
theorem dX1_init_0 : decode cX1_init 0 = .ok (.aload_n 0, 1) := by decide +kernel
theorem dX1_init_1 : decode cX1_init 1 = .ok (.invokespecial 3, 3) := by decide +kernel
theorem dX1_init_4 : decode cX1_init 4 = .ok (.aload_n 0, 1) := by decide +kernel
theorem dX1_init_5 : decode cX1_init 5 = .ok (.bipush 40, 2) := by decide +kernel
theorem dX1_init_7 : decode cX1_init 7 = .ok (.newarray .int, 2) := by decide +kernel
theorem dX1_init_9 : decode cX1_init 9 = .ok (.putfield 11, 3) := by decide +kernel
theorem dX1_init_12 : decode cX1_init 12 = .ok (.aload_n 0, 1) := by decide +kernel
theorem dX1_init_13 : decode cX1_init 13 = .ok (.iconst 0, 1) := by decide +kernel
theorem dX1_init_14 : decode cX1_init 14 = .ok (.putfield 15, 3) := by decide +kernel
theorem dX1_init_17 : decode cX1_init 17 = .ok (.return_, 1) := by decide +kernel
theorem dX1_append_0 : decode cX1_append 0 = .ok (.aload_n 0, 1) := by decide +kernel
theorem dX1_append_1 : decode cX1_append 1 = .ok (.getfield 15, 3) := by decide +kernel
theorem dX1_append_4 : decode cX1_append 4 = .ok (.bipush 8, 2) := by decide +kernel
theorem dX1_append_6 : decode cX1_append 6 = .ok (.if_icmp .lt 5, 3) := by decide +kernel
theorem dX1_append_9 : decode cX1_append 9 = .ok (.iconst 0, 1) := by decide +kernel
theorem dX1_append_10 : decode cX1_append 10 = .ok (.ireturn, 1) := by decide +kernel
theorem dX1_append_11 : decode cX1_append 11 = .ok (.aload_n 0, 1) := by decide +kernel
theorem dX1_append_12 : decode cX1_append 12 = .ok (.getfield 15, 3) := by decide +kernel
theorem dX1_append_15 : decode cX1_append 15 = .ok (.iconst 5, 1) := by decide +kernel
theorem dX1_append_16 : decode cX1_append 16 = .ok (.imul, 1) := by decide +kernel
theorem dX1_append_17 : decode cX1_append 17 = .ok (.istore 6, 2) := by decide +kernel
theorem dX1_append_19 : decode cX1_append 19 = .ok (.aload_n 0, 1) := by decide +kernel
theorem dX1_append_20 : decode cX1_append 20 = .ok (.getfield 11, 3) := by decide +kernel
theorem dX1_append_23 : decode cX1_append 23 = .ok (.iload 6, 2) := by decide +kernel
theorem dX1_append_25 : decode cX1_append 25 = .ok (.iload_n 1, 1) := by decide +kernel
theorem dX1_append_26 : decode cX1_append 26 = .ok (.iastore, 1) := by decide +kernel
theorem dX1_append_27 : decode cX1_append 27 = .ok (.aload_n 0, 1) := by decide +kernel
theorem dX1_append_28 : decode cX1_append 28 = .ok (.getfield 11, 3) := by decide +kernel
theorem dX1_append_31 : decode cX1_append 31 = .ok (.iload 6, 2) := by decide +kernel
theorem dX1_append_33 : decode cX1_append 33 = .ok (.iconst 1, 1) := by decide +kernel
theorem dX1_append_34 : decode cX1_append 34 = .ok (.iadd, 1) := by decide +kernel
theorem dX1_append_35 : decode cX1_append 35 = .ok (.iload_n 2, 1) := by decide +kernel
theorem dX1_append_36 : decode cX1_append 36 = .ok (.iastore, 1) := by decide +kernel
theorem dX1_append_37 : decode cX1_append 37 = .ok (.aload_n 0, 1) := by decide +kernel
theorem dX1_append_38 : decode cX1_append 38 = .ok (.getfield 11, 3) := by decide +kernel
theorem dX1_append_41 : decode cX1_append 41 = .ok (.iload 6, 2) := by decide +kernel
theorem dX1_append_43 : decode cX1_append 43 = .ok (.iconst 2, 1) := by decide +kernel
theorem dX1_append_44 : decode cX1_append 44 = .ok (.iadd, 1) := by decide +kernel
theorem dX1_append_45 : decode cX1_append 45 = .ok (.iload_n 3, 1) := by decide +kernel
theorem dX1_append_46 : decode cX1_append 46 = .ok (.iastore, 1) := by decide +kernel
theorem dX1_append_47 : decode cX1_append 47 = .ok (.aload_n 0, 1) := by decide +kernel
theorem dX1_append_48 : decode cX1_append 48 = .ok (.getfield 11, 3) := by decide +kernel
theorem dX1_append_51 : decode cX1_append 51 = .ok (.iload 6, 2) := by decide +kernel
theorem dX1_append_53 : decode cX1_append 53 = .ok (.iconst 3, 1) := by decide +kernel
theorem dX1_append_54 : decode cX1_append 54 = .ok (.iadd, 1) := by decide +kernel
theorem dX1_append_55 : decode cX1_append 55 = .ok (.iload 4, 2) := by decide +kernel
theorem dX1_append_57 : decode cX1_append 57 = .ok (.iastore, 1) := by decide +kernel
theorem dX1_append_58 : decode cX1_append 58 = .ok (.aload_n 0, 1) := by decide +kernel
theorem dX1_append_59 : decode cX1_append 59 = .ok (.getfield 11, 3) := by decide +kernel
theorem dX1_append_62 : decode cX1_append 62 = .ok (.iload 6, 2) := by decide +kernel
theorem dX1_append_64 : decode cX1_append 64 = .ok (.iconst 4, 1) := by decide +kernel
theorem dX1_append_65 : decode cX1_append 65 = .ok (.iadd, 1) := by decide +kernel
theorem dX1_append_66 : decode cX1_append 66 = .ok (.iload 5, 2) := by decide +kernel
theorem dX1_append_68 : decode cX1_append 68 = .ok (.iastore, 1) := by decide +kernel
theorem dX1_append_69 : decode cX1_append 69 = .ok (.aload_n 0, 1) := by decide +kernel
theorem dX1_append_70 : decode cX1_append 70 = .ok (.dup, 1) := by decide +kernel
theorem dX1_append_71 : decode cX1_append 71 = .ok (.getfield 15, 3) := by decide +kernel
theorem dX1_append_74 : decode cX1_append 74 = .ok (.iconst 1, 1) := by decide +kernel
theorem dX1_append_75 : decode cX1_append 75 = .ok (.iadd, 1) := by decide +kernel
theorem dX1_append_76 : decode cX1_append 76 = .ok (.putfield 15, 3) := by decide +kernel
theorem dX1_append_79 : decode cX1_append 79 = .ok (.iconst 1, 1) := by decide +kernel
theorem dX1_append_80 : decode cX1_append 80 = .ok (.ireturn, 1) := by decide +kernel
theorem dX1_word_0 : decode cX1_word 0 = .ok (.aload_n 0, 1) := by decide +kernel
theorem dX1_word_1 : decode cX1_word 1 = .ok (.getfield 11, 3) := by decide +kernel
theorem dX1_word_4 : decode cX1_word 4 = .ok (.iload_n 1, 1) := by decide +kernel
theorem dX1_word_5 : decode cX1_word 5 = .ok (.iconst 5, 1) := by decide +kernel
theorem dX1_word_6 : decode cX1_word 6 = .ok (.imul, 1) := by decide +kernel
theorem dX1_word_7 : decode cX1_word 7 = .ok (.iload_n 2, 1) := by decide +kernel
theorem dX1_word_8 : decode cX1_word 8 = .ok (.iadd, 1) := by decide +kernel
theorem dX1_word_9 : decode cX1_word 9 = .ok (.iaload, 1) := by decide +kernel
theorem dX1_word_10 : decode cX1_word 10 = .ok (.ireturn, 1) := by decide +kernel
