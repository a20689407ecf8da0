theorem dd_P_init_0 : decode mb_P_init 0 = .ok (.aload_n 0, 1) := by decide +kernel
theorem dd_P_init_1 : decode mb_P_init 1 = .ok (.invokespecial 3, 3) := by decide +kernel
theorem dd_P_init_4 : decode mb_P_init 4 = .ok (.aload_n 0, 1) := by decide +kernel
theorem dd_P_init_5 : decode mb_P_init 5 = .ok (.sipush 3000, 3) := by decide +kernel
theorem dd_P_init_8 : decode mb_P_init 8 = .ok (.newarray .long, 2) := by decide +kernel
theorem dd_P_init_10 : decode mb_P_init 10 = .ok (.putfield 9, 3) := by decide +kernel
theorem dd_P_init_13 : decode mb_P_init 13 = .ok (.aload_n 0, 1) := by decide +kernel
theorem dd_P_init_14 : decode mb_P_init 14 = .ok (.sipush 3000, 3) := by decide +kernel
theorem dd_P_init_17 : decode mb_P_init 17 = .ok (.newarray .long, 2) := by decide +kernel
theorem dd_P_init_19 : decode mb_P_init 19 = .ok (.putfield 15, 3) := by decide +kernel
theorem dd_P_init_22 : decode mb_P_init 22 = .ok (.aload_n 0, 1) := by decide +kernel
theorem dd_P_init_23 : decode mb_P_init 23 = .ok (.iconst 0, 1) := by decide +kernel
theorem dd_P_init_24 : decode mb_P_init 24 = .ok (.putfield 18, 3) := by decide +kernel
theorem dd_P_init_27 : decode mb_P_init 27 = .ok (.return_, 1) := by decide +kernel
theorem dd_B_init_0 : decode mb_B_init 0 = .ok (.aload_n 0, 1) := by decide +kernel
theorem dd_B_init_1 : decode mb_B_init 1 = .ok (.invokespecial 3, 3) := by decide +kernel
theorem dd_B_init_4 : decode mb_B_init 4 = .ok (.aload_n 0, 1) := by decide +kernel
theorem dd_B_init_5 : decode mb_B_init 5 = .ok (.sipush 6250, 3) := by decide +kernel
theorem dd_B_init_8 : decode mb_B_init 8 = .ok (.newarray .long, 2) := by decide +kernel
theorem dd_B_init_10 : decode mb_B_init 10 = .ok (.putfield 9, 3) := by decide +kernel
theorem dd_B_init_13 : decode mb_B_init 13 = .ok (.aload_n 0, 1) := by decide +kernel
theorem dd_B_init_14 : decode mb_B_init 14 = .ok (.iconst 0, 1) := by decide +kernel
theorem dd_B_init_15 : decode mb_B_init 15 = .ok (.putfield 15, 3) := by decide +kernel
theorem dd_B_init_18 : decode mb_B_init 18 = .ok (.return_, 1) := by decide +kernel
theorem dd_P_latestTime_0 : decode mb_P_latestTime 0 = .ok (.aload_n 0, 1) := by decide +kernel
theorem dd_P_latestTime_1 : decode mb_P_latestTime 1 = .ok (.getfield 18, 3) := by decide +kernel
theorem dd_P_latestTime_4 : decode mb_P_latestTime 4 = .ok (.ifCond .ne 9, 3) := by decide +kernel
theorem dd_P_latestTime_7 : decode mb_P_latestTime 7 = .ok (.ldc2_w 22, 3) := by decide +kernel
theorem dd_P_latestTime_10 : decode mb_P_latestTime 10 = .ok (.goto 14, 3) := by decide +kernel
theorem dd_P_latestTime_13 : decode mb_P_latestTime 13 = .ok (.aload_n 0, 1) := by decide +kernel
theorem dd_P_latestTime_14 : decode mb_P_latestTime 14 = .ok (.getfield 9, 3) := by decide +kernel
theorem dd_P_latestTime_17 : decode mb_P_latestTime 17 = .ok (.aload_n 0, 1) := by decide +kernel
theorem dd_P_latestTime_18 : decode mb_P_latestTime 18 = .ok (.getfield 18, 3) := by decide +kernel
theorem dd_P_latestTime_21 : decode mb_P_latestTime 21 = .ok (.iconst 1, 1) := by decide +kernel
theorem dd_P_latestTime_22 : decode mb_P_latestTime 22 = .ok (.isub, 1) := by decide +kernel
theorem dd_P_latestTime_23 : decode mb_P_latestTime 23 = .ok (.laload, 1) := by decide +kernel
theorem dd_P_latestTime_24 : decode mb_P_latestTime 24 = .ok (.lreturn, 1) := by decide +kernel
theorem dd_P_append_0 : decode mb_P_append 0 = .ok (.aload_n 0, 1) := by decide +kernel
theorem dd_P_append_1 : decode mb_P_append 1 = .ok (.getfield 18, 3) := by decide +kernel
theorem dd_P_append_4 : decode mb_P_append 4 = .ok (.sipush 3000, 3) := by decide +kernel
theorem dd_P_append_7 : decode mb_P_append 7 = .ok (.if_icmp .lt 5, 3) := by decide +kernel
theorem dd_P_append_10 : decode mb_P_append 10 = .ok (.iconst 0, 1) := by decide +kernel
theorem dd_P_append_11 : decode mb_P_append 11 = .ok (.ireturn, 1) := by decide +kernel
theorem dd_P_append_12 : decode mb_P_append 12 = .ok (.aload_n 0, 1) := by decide +kernel
theorem dd_P_append_13 : decode mb_P_append 13 = .ok (.getfield 9, 3) := by decide +kernel
theorem dd_P_append_16 : decode mb_P_append 16 = .ok (.aload_n 0, 1) := by decide +kernel
theorem dd_P_append_17 : decode mb_P_append 17 = .ok (.getfield 18, 3) := by decide +kernel
theorem dd_P_append_20 : decode mb_P_append 20 = .ok (.lload_n 1, 1) := by decide +kernel
theorem dd_P_append_21 : decode mb_P_append 21 = .ok (.lastore, 1) := by decide +kernel
theorem dd_P_append_22 : decode mb_P_append 22 = .ok (.aload_n 0, 1) := by decide +kernel
theorem dd_P_append_23 : decode mb_P_append 23 = .ok (.getfield 15, 3) := by decide +kernel
theorem dd_P_append_26 : decode mb_P_append 26 = .ok (.aload_n 0, 1) := by decide +kernel
theorem dd_P_append_27 : decode mb_P_append 27 = .ok (.getfield 18, 3) := by decide +kernel
theorem dd_P_append_30 : decode mb_P_append 30 = .ok (.lload_n 3, 1) := by decide +kernel
theorem dd_P_append_31 : decode mb_P_append 31 = .ok (.lastore, 1) := by decide +kernel
theorem dd_P_append_32 : decode mb_P_append 32 = .ok (.aload_n 0, 1) := by decide +kernel
theorem dd_P_append_33 : decode mb_P_append 33 = .ok (.dup, 1) := by decide +kernel
theorem dd_P_append_34 : decode mb_P_append 34 = .ok (.getfield 18, 3) := by decide +kernel
theorem dd_P_append_37 : decode mb_P_append 37 = .ok (.iconst 1, 1) := by decide +kernel
theorem dd_P_append_38 : decode mb_P_append 38 = .ok (.iadd, 1) := by decide +kernel
theorem dd_P_append_39 : decode mb_P_append 39 = .ok (.putfield 18, 3) := by decide +kernel
theorem dd_P_append_42 : decode mb_P_append 42 = .ok (.iconst 1, 1) := by decide +kernel
theorem dd_P_append_43 : decode mb_P_append 43 = .ok (.ireturn, 1) := by decide +kernel
theorem dd_P_size_0 : decode mb_P_size 0 = .ok (.aload_n 0, 1) := by decide +kernel
theorem dd_P_size_1 : decode mb_P_size 1 = .ok (.getfield 18, 3) := by decide +kernel
theorem dd_P_size_4 : decode mb_P_size 4 = .ok (.ireturn, 1) := by decide +kernel
theorem dd_P_shorten_0 : decode mb_P_shorten 0 = .ok (.aload_n 0, 1) := by decide +kernel
theorem dd_P_shorten_1 : decode mb_P_shorten 1 = .ok (.iload_n 1, 1) := by decide +kernel
theorem dd_P_shorten_2 : decode mb_P_shorten 2 = .ok (.putfield 18, 3) := by decide +kernel
theorem dd_P_shorten_5 : decode mb_P_shorten 5 = .ok (.return_, 1) := by decide +kernel
theorem dd_B_shorten_0 : decode mb_B_shorten 0 = .ok (.aload_n 0, 1) := by decide +kernel
theorem dd_B_shorten_1 : decode mb_B_shorten 1 = .ok (.iload_n 1, 1) := by decide +kernel
theorem dd_B_shorten_2 : decode mb_B_shorten 2 = .ok (.putfield 15, 3) := by decide +kernel
theorem dd_B_shorten_5 : decode mb_B_shorten 5 = .ok (.return_, 1) := by decide +kernel
theorem dd_F_init_0 : decode mb_F_init 0 = .ok (.aload_n 0, 1) := by decide +kernel
theorem dd_F_init_1 : decode mb_F_init 1 = .ok (.invokespecial 3, 3) := by decide +kernel
theorem dd_F_init_4 : decode mb_F_init 4 = .ok (.aload_n 0, 1) := by decide +kernel
theorem dd_F_init_5 : decode mb_F_init 5 = .ok (.iconst 0, 1) := by decide +kernel
theorem dd_F_init_6 : decode mb_F_init 6 = .ok (.putfield 9, 3) := by decide +kernel
theorem dd_F_init_9 : decode mb_F_init 9 = .ok (.aload_n 0, 1) := by decide +kernel
theorem dd_F_init_10 : decode mb_F_init 10 = .ok (.iconst 0, 1) := by decide +kernel
theorem dd_F_init_11 : decode mb_F_init 11 = .ok (.putfield 15, 3) := by decide +kernel
theorem dd_F_init_14 : decode mb_F_init 14 = .ok (.return_, 1) := by decide +kernel
theorem dd_P_timeAt_0 : decode mb_P_timeAt 0 = .ok (.iload_n 1, 1) := by decide +kernel
theorem dd_P_timeAt_1 : decode mb_P_timeAt 1 = .ok (.ifCond .lt 11, 3) := by decide +kernel
theorem dd_P_timeAt_4 : decode mb_P_timeAt 4 = .ok (.iload_n 1, 1) := by decide +kernel
theorem dd_P_timeAt_5 : decode mb_P_timeAt 5 = .ok (.aload_n 0, 1) := by decide +kernel
theorem dd_P_timeAt_6 : decode mb_P_timeAt 6 = .ok (.getfield 18, 3) := by decide +kernel
theorem dd_P_timeAt_9 : decode mb_P_timeAt 9 = .ok (.if_icmp .lt 13, 3) := by decide +kernel
theorem dd_P_timeAt_12 : decode mb_P_timeAt 12 = .ok (.new 24, 3) := by decide +kernel
theorem dd_P_timeAt_15 : decode mb_P_timeAt 15 = .ok (.dup, 1) := by decide +kernel
theorem dd_P_timeAt_16 : decode mb_P_timeAt 16 = .ok (.ldc 26, 2) := by decide +kernel
theorem dd_P_timeAt_18 : decode mb_P_timeAt 18 = .ok (.invokespecial 28, 3) := by decide +kernel
theorem dd_P_timeAt_21 : decode mb_P_timeAt 21 = .ok (.athrow, 1) := by decide +kernel
theorem dd_P_timeAt_22 : decode mb_P_timeAt 22 = .ok (.aload_n 0, 1) := by decide +kernel
theorem dd_P_timeAt_23 : decode mb_P_timeAt 23 = .ok (.getfield 9, 3) := by decide +kernel
theorem dd_P_timeAt_26 : decode mb_P_timeAt 26 = .ok (.iload_n 1, 1) := by decide +kernel
theorem dd_P_timeAt_27 : decode mb_P_timeAt 27 = .ok (.laload, 1) := by decide +kernel
theorem dd_P_timeAt_28 : decode mb_P_timeAt 28 = .ok (.lreturn, 1) := by decide +kernel
theorem dd_P_valueAt_0 : decode mb_P_valueAt 0 = .ok (.iload_n 1, 1) := by decide +kernel
theorem dd_P_valueAt_1 : decode mb_P_valueAt 1 = .ok (.ifCond .lt 11, 3) := by decide +kernel
theorem dd_P_valueAt_4 : decode mb_P_valueAt 4 = .ok (.iload_n 1, 1) := by decide +kernel
theorem dd_P_valueAt_5 : decode mb_P_valueAt 5 = .ok (.aload_n 0, 1) := by decide +kernel
theorem dd_P_valueAt_6 : decode mb_P_valueAt 6 = .ok (.getfield 18, 3) := by decide +kernel
theorem dd_P_valueAt_9 : decode mb_P_valueAt 9 = .ok (.if_icmp .lt 13, 3) := by decide +kernel
theorem dd_P_valueAt_12 : decode mb_P_valueAt 12 = .ok (.new 24, 3) := by decide +kernel
theorem dd_P_valueAt_15 : decode mb_P_valueAt 15 = .ok (.dup, 1) := by decide +kernel
theorem dd_P_valueAt_16 : decode mb_P_valueAt 16 = .ok (.ldc 26, 2) := by decide +kernel
theorem dd_P_valueAt_18 : decode mb_P_valueAt 18 = .ok (.invokespecial 28, 3) := by decide +kernel
theorem dd_P_valueAt_21 : decode mb_P_valueAt 21 = .ok (.athrow, 1) := by decide +kernel
theorem dd_P_valueAt_22 : decode mb_P_valueAt 22 = .ok (.aload_n 0, 1) := by decide +kernel
theorem dd_P_valueAt_23 : decode mb_P_valueAt 23 = .ok (.getfield 15, 3) := by decide +kernel
theorem dd_P_valueAt_26 : decode mb_P_valueAt 26 = .ok (.iload_n 1, 1) := by decide +kernel
theorem dd_P_valueAt_27 : decode mb_P_valueAt 27 = .ok (.laload, 1) := by decide +kernel
theorem dd_P_valueAt_28 : decode mb_P_valueAt 28 = .ok (.lreturn, 1) := by decide +kernel
theorem dd_B_append_0 : decode mb_B_append 0 = .ok (.iload_n 3, 1) := by decide +kernel
theorem dd_B_append_1 : decode mb_B_append 1 = .ok (.ldc 30, 2) := by decide +kernel
theorem dd_B_append_3 : decode mb_B_append 3 = .ok (.aload_n 0, 1) := by decide +kernel
theorem dd_B_append_4 : decode mb_B_append 4 = .ok (.getfield 15, 3) := by decide +kernel
theorem dd_B_append_7 : decode mb_B_append 7 = .ok (.isub, 1) := by decide +kernel
theorem dd_B_append_8 : decode mb_B_append 8 = .ok (.if_icmp .le 5, 3) := by decide +kernel
theorem dd_B_append_11 : decode mb_B_append 11 = .ok (.iconst 0, 1) := by decide +kernel
theorem dd_B_append_12 : decode mb_B_append 12 = .ok (.ireturn, 1) := by decide +kernel
theorem dd_B_append_13 : decode mb_B_append 13 = .ok (.iload_n 3, 1) := by decide +kernel
theorem dd_B_append_14 : decode mb_B_append 14 = .ok (.ifCond .ne 5, 3) := by decide +kernel
theorem dd_B_append_17 : decode mb_B_append 17 = .ok (.iconst 1, 1) := by decide +kernel
theorem dd_B_append_18 : decode mb_B_append 18 = .ok (.ireturn, 1) := by decide +kernel
theorem dd_B_append_19 : decode mb_B_append 19 = .ok (.aload_n 0, 1) := by decide +kernel
theorem dd_B_append_20 : decode mb_B_append 20 = .ok (.getfield 15, 3) := by decide +kernel
theorem dd_B_append_23 : decode mb_B_append 23 = .ok (.bipush 64, 2) := by decide +kernel
theorem dd_B_append_25 : decode mb_B_append 25 = .ok (.idiv, 1) := by decide +kernel
theorem dd_B_append_26 : decode mb_B_append 26 = .ok (.istore 4, 2) := by decide +kernel
theorem dd_B_append_28 : decode mb_B_append 28 = .ok (.aload_n 0, 1) := by decide +kernel
theorem dd_B_append_29 : decode mb_B_append 29 = .ok (.getfield 15, 3) := by decide +kernel
theorem dd_B_append_32 : decode mb_B_append 32 = .ok (.bipush 64, 2) := by decide +kernel
theorem dd_B_append_34 : decode mb_B_append 34 = .ok (.irem, 1) := by decide +kernel
theorem dd_B_append_35 : decode mb_B_append 35 = .ok (.istore 5, 2) := by decide +kernel
theorem dd_B_append_37 : decode mb_B_append 37 = .ok (.bipush 64, 2) := by decide +kernel
theorem dd_B_append_39 : decode mb_B_append 39 = .ok (.iload 5, 2) := by decide +kernel
theorem dd_B_append_41 : decode mb_B_append 41 = .ok (.isub, 1) := by decide +kernel
theorem dd_B_append_42 : decode mb_B_append 42 = .ok (.istore 6, 2) := by decide +kernel
theorem dd_B_append_44 : decode mb_B_append 44 = .ok (.iload 5, 2) := by decide +kernel
theorem dd_B_append_46 : decode mb_B_append 46 = .ok (.ifCond .ne 7, 3) := by decide +kernel
theorem dd_B_append_49 : decode mb_B_append 49 = .ok (.lconst 0, 1) := by decide +kernel
theorem dd_B_append_50 : decode mb_B_append 50 = .ok (.goto 16, 3) := by decide +kernel
theorem dd_B_append_53 : decode mb_B_append 53 = .ok (.aload_n 0, 1) := by decide +kernel
theorem dd_B_append_54 : decode mb_B_append 54 = .ok (.getfield 9, 3) := by decide +kernel
theorem dd_B_append_57 : decode mb_B_append 57 = .ok (.iload 4, 2) := by decide +kernel
theorem dd_B_append_59 : decode mb_B_append 59 = .ok (.laload, 1) := by decide +kernel
theorem dd_B_append_60 : decode mb_B_append 60 = .ok (.iload 6, 2) := by decide +kernel
theorem dd_B_append_62 : decode mb_B_append 62 = .ok (.lushr, 1) := by decide +kernel
theorem dd_B_append_63 : decode mb_B_append 63 = .ok (.iload 6, 2) := by decide +kernel
theorem dd_B_append_65 : decode mb_B_append 65 = .ok (.lshl, 1) := by decide +kernel
theorem dd_B_append_66 : decode mb_B_append 66 = .ok (.lstore 7, 2) := by decide +kernel
theorem dd_B_append_68 : decode mb_B_append 68 = .ok (.iload_n 3, 1) := by decide +kernel
theorem dd_B_append_69 : decode mb_B_append 69 = .ok (.iload 6, 2) := by decide +kernel
theorem dd_B_append_71 : decode mb_B_append 71 = .ok (.if_icmp .gt 22, 3) := by decide +kernel
theorem dd_B_append_74 : decode mb_B_append 74 = .ok (.aload_n 0, 1) := by decide +kernel
theorem dd_B_append_75 : decode mb_B_append 75 = .ok (.getfield 9, 3) := by decide +kernel
theorem dd_B_append_78 : decode mb_B_append 78 = .ok (.iload 4, 2) := by decide +kernel
theorem dd_B_append_80 : decode mb_B_append 80 = .ok (.lload 7, 2) := by decide +kernel
theorem dd_B_append_82 : decode mb_B_append 82 = .ok (.lload_n 1, 1) := by decide +kernel
theorem dd_B_append_83 : decode mb_B_append 83 = .ok (.iload 6, 2) := by decide +kernel
theorem dd_B_append_85 : decode mb_B_append 85 = .ok (.iload_n 3, 1) := by decide +kernel
theorem dd_B_append_86 : decode mb_B_append 86 = .ok (.isub, 1) := by decide +kernel
theorem dd_B_append_87 : decode mb_B_append 87 = .ok (.lshl, 1) := by decide +kernel
theorem dd_B_append_88 : decode mb_B_append 88 = .ok (.lor, 1) := by decide +kernel
theorem dd_B_append_89 : decode mb_B_append 89 = .ok (.lastore, 1) := by decide +kernel
theorem dd_B_append_90 : decode mb_B_append 90 = .ok (.goto 39, 3) := by decide +kernel
theorem dd_B_append_93 : decode mb_B_append 93 = .ok (.iload_n 3, 1) := by decide +kernel
theorem dd_B_append_94 : decode mb_B_append 94 = .ok (.iload 6, 2) := by decide +kernel
theorem dd_B_append_96 : decode mb_B_append 96 = .ok (.isub, 1) := by decide +kernel
theorem dd_B_append_97 : decode mb_B_append 97 = .ok (.istore 9, 2) := by decide +kernel
theorem dd_B_append_99 : decode mb_B_append 99 = .ok (.aload_n 0, 1) := by decide +kernel
theorem dd_B_append_100 : decode mb_B_append 100 = .ok (.getfield 9, 3) := by decide +kernel
theorem dd_B_append_103 : decode mb_B_append 103 = .ok (.iload 4, 2) := by decide +kernel
theorem dd_B_append_105 : decode mb_B_append 105 = .ok (.lload 7, 2) := by decide +kernel
theorem dd_B_append_107 : decode mb_B_append 107 = .ok (.lload_n 1, 1) := by decide +kernel
theorem dd_B_append_108 : decode mb_B_append 108 = .ok (.iload 9, 2) := by decide +kernel
theorem dd_B_append_110 : decode mb_B_append 110 = .ok (.lushr, 1) := by decide +kernel
theorem dd_B_append_111 : decode mb_B_append 111 = .ok (.lor, 1) := by decide +kernel
theorem dd_B_append_112 : decode mb_B_append 112 = .ok (.lastore, 1) := by decide +kernel
theorem dd_B_append_113 : decode mb_B_append 113 = .ok (.aload_n 0, 1) := by decide +kernel
theorem dd_B_append_114 : decode mb_B_append 114 = .ok (.getfield 9, 3) := by decide +kernel
theorem dd_B_append_117 : decode mb_B_append 117 = .ok (.iload 4, 2) := by decide +kernel
theorem dd_B_append_119 : decode mb_B_append 119 = .ok (.iconst 1, 1) := by decide +kernel
theorem dd_B_append_120 : decode mb_B_append 120 = .ok (.iadd, 1) := by decide +kernel
theorem dd_B_append_121 : decode mb_B_append 121 = .ok (.lload_n 1, 1) := by decide +kernel
theorem dd_B_append_122 : decode mb_B_append 122 = .ok (.bipush 64, 2) := by decide +kernel
theorem dd_B_append_124 : decode mb_B_append 124 = .ok (.iload 9, 2) := by decide +kernel
theorem dd_B_append_126 : decode mb_B_append 126 = .ok (.isub, 1) := by decide +kernel
theorem dd_B_append_127 : decode mb_B_append 127 = .ok (.lshl, 1) := by decide +kernel
theorem dd_B_append_128 : decode mb_B_append 128 = .ok (.lastore, 1) := by decide +kernel
theorem dd_B_append_129 : decode mb_B_append 129 = .ok (.aload_n 0, 1) := by decide +kernel
theorem dd_B_append_130 : decode mb_B_append 130 = .ok (.dup, 1) := by decide +kernel
theorem dd_B_append_131 : decode mb_B_append 131 = .ok (.getfield 15, 3) := by decide +kernel
theorem dd_B_append_134 : decode mb_B_append 134 = .ok (.iload_n 3, 1) := by decide +kernel
theorem dd_B_append_135 : decode mb_B_append 135 = .ok (.iadd, 1) := by decide +kernel
theorem dd_B_append_136 : decode mb_B_append 136 = .ok (.putfield 15, 3) := by decide +kernel
theorem dd_B_append_139 : decode mb_B_append 139 = .ok (.iconst 1, 1) := by decide +kernel
theorem dd_B_append_140 : decode mb_B_append 140 = .ok (.ireturn, 1) := by decide +kernel
theorem dd_F_holds_0 : decode mb_F_holds 0 = .ok (.aload_n 0, 1) := by decide +kernel
theorem dd_F_holds_1 : decode mb_F_holds 1 = .ok (.invokevirtual 18, 3) := by decide +kernel
theorem dd_F_holds_4 : decode mb_F_holds 4 = .ok (.ifCond .eq 23, 3) := by decide +kernel
theorem dd_F_holds_7 : decode mb_F_holds 7 = .ok (.iload_n 1, 1) := by decide +kernel
theorem dd_F_holds_8 : decode mb_F_holds 8 = .ok (.aload_n 0, 1) := by decide +kernel
theorem dd_F_holds_9 : decode mb_F_holds 9 = .ok (.getfield 9, 3) := by decide +kernel
theorem dd_F_holds_12 : decode mb_F_holds 12 = .ok (.if_icmp .lt 15, 3) := by decide +kernel
theorem dd_F_holds_15 : decode mb_F_holds 15 = .ok (.iload_n 2, 1) := by decide +kernel
theorem dd_F_holds_16 : decode mb_F_holds 16 = .ok (.aload_n 0, 1) := by decide +kernel
theorem dd_F_holds_17 : decode mb_F_holds 17 = .ok (.invokevirtual 22, 3) := by decide +kernel
theorem dd_F_holds_20 : decode mb_F_holds 20 = .ok (.if_icmp .lt 7, 3) := by decide +kernel
theorem dd_F_holds_23 : decode mb_F_holds 23 = .ok (.iconst 1, 1) := by decide +kernel
theorem dd_F_holds_24 : decode mb_F_holds 24 = .ok (.goto 4, 3) := by decide +kernel
theorem dd_F_holds_27 : decode mb_F_holds 27 = .ok (.iconst 0, 1) := by decide +kernel
theorem dd_F_holds_28 : decode mb_F_holds 28 = .ok (.ireturn, 1) := by decide +kernel
theorem dd_F_isThere_0 : decode mb_F_isThere 0 = .ok (.aload_n 0, 1) := by decide +kernel
theorem dd_F_isThere_1 : decode mb_F_isThere 1 = .ok (.getfield 15, 3) := by decide +kernel
theorem dd_F_isThere_4 : decode mb_F_isThere 4 = .ok (.ifCond .le 7, 3) := by decide +kernel
theorem dd_F_isThere_7 : decode mb_F_isThere 7 = .ok (.iconst 1, 1) := by decide +kernel
theorem dd_F_isThere_8 : decode mb_F_isThere 8 = .ok (.goto 4, 3) := by decide +kernel
theorem dd_F_isThere_11 : decode mb_F_isThere 11 = .ok (.iconst 0, 1) := by decide +kernel
theorem dd_F_isThere_12 : decode mb_F_isThere 12 = .ok (.ireturn, 1) := by decide +kernel
theorem dd_F_below_0 : decode mb_F_below 0 = .ok (.bipush 64, 2) := by decide +kernel
theorem dd_F_below_2 : decode mb_F_below 2 = .ok (.aload_n 0, 1) := by decide +kernel
theorem dd_F_below_3 : decode mb_F_below 3 = .ok (.getfield 9, 3) := by decide +kernel
theorem dd_F_below_6 : decode mb_F_below 6 = .ok (.isub, 1) := by decide +kernel
theorem dd_F_below_7 : decode mb_F_below 7 = .ok (.aload_n 0, 1) := by decide +kernel
theorem dd_F_below_8 : decode mb_F_below 8 = .ok (.getfield 15, 3) := by decide +kernel
theorem dd_F_below_11 : decode mb_F_below 11 = .ok (.isub, 1) := by decide +kernel
theorem dd_F_below_12 : decode mb_F_below 12 = .ok (.ireturn, 1) := by decide +kernel
theorem dd_F_become_0 : decode mb_F_become 0 = .ok (.aload_n 0, 1) := by decide +kernel
theorem dd_F_become_1 : decode mb_F_become 1 = .ok (.iload_n 1, 1) := by decide +kernel
theorem dd_F_become_2 : decode mb_F_become 2 = .ok (.putfield 9, 3) := by decide +kernel
theorem dd_F_become_5 : decode mb_F_become 5 = .ok (.aload_n 0, 1) := by decide +kernel
theorem dd_F_become_6 : decode mb_F_become 6 = .ok (.iload_n 2, 1) := by decide +kernel
theorem dd_F_become_7 : decode mb_F_become 7 = .ok (.putfield 15, 3) := by decide +kernel
theorem dd_F_become_10 : decode mb_F_become 10 = .ok (.return_, 1) := by decide +kernel
theorem dd_F_width_0 : decode mb_F_width 0 = .ok (.aload_n 0, 1) := by decide +kernel
theorem dd_F_width_1 : decode mb_F_width 1 = .ok (.getfield 15, 3) := by decide +kernel
theorem dd_F_width_4 : decode mb_F_width 4 = .ok (.ireturn, 1) := by decide +kernel
theorem dd_B_size_0 : decode mb_B_size 0 = .ok (.aload_n 0, 1) := by decide +kernel
theorem dd_B_size_1 : decode mb_B_size 1 = .ok (.getfield 15, 3) := by decide +kernel
theorem dd_B_size_4 : decode mb_B_size 4 = .ok (.ireturn, 1) := by decide +kernel
theorem dd_B_has_0 : decode mb_B_has 0 = .ok (.iload_n 1, 1) := by decide +kernel
theorem dd_B_has_1 : decode mb_B_has 1 = .ok (.ifCond .lt 25, 3) := by decide +kernel
theorem dd_B_has_4 : decode mb_B_has 4 = .ok (.iload_n 1, 1) := by decide +kernel
theorem dd_B_has_5 : decode mb_B_has 5 = .ok (.aload_n 0, 1) := by decide +kernel
theorem dd_B_has_6 : decode mb_B_has 6 = .ok (.getfield 15, 3) := by decide +kernel
theorem dd_B_has_9 : decode mb_B_has 9 = .ok (.if_icmp .gt 17, 3) := by decide +kernel
theorem dd_B_has_12 : decode mb_B_has 12 = .ok (.iload_n 2, 1) := by decide +kernel
theorem dd_B_has_13 : decode mb_B_has 13 = .ok (.aload_n 0, 1) := by decide +kernel
theorem dd_B_has_14 : decode mb_B_has 14 = .ok (.getfield 15, 3) := by decide +kernel
theorem dd_B_has_17 : decode mb_B_has 17 = .ok (.iload_n 1, 1) := by decide +kernel
theorem dd_B_has_18 : decode mb_B_has 18 = .ok (.isub, 1) := by decide +kernel
theorem dd_B_has_19 : decode mb_B_has 19 = .ok (.if_icmp .gt 7, 3) := by decide +kernel
theorem dd_B_has_22 : decode mb_B_has 22 = .ok (.iconst 1, 1) := by decide +kernel
theorem dd_B_has_23 : decode mb_B_has 23 = .ok (.goto 4, 3) := by decide +kernel
theorem dd_B_has_26 : decode mb_B_has 26 = .ok (.iconst 0, 1) := by decide +kernel
theorem dd_B_has_27 : decode mb_B_has 27 = .ok (.ireturn, 1) := by decide +kernel
theorem dd_B_numberAt_0 : decode mb_B_numberAt 0 = .ok (.iload_n 1, 1) := by decide +kernel
theorem dd_B_numberAt_1 : decode mb_B_numberAt 1 = .ok (.bipush 64, 2) := by decide +kernel
theorem dd_B_numberAt_3 : decode mb_B_numberAt 3 = .ok (.idiv, 1) := by decide +kernel
theorem dd_B_numberAt_4 : decode mb_B_numberAt 4 = .ok (.istore_n 3, 1) := by decide +kernel
theorem dd_B_numberAt_5 : decode mb_B_numberAt 5 = .ok (.iload_n 1, 1) := by decide +kernel
theorem dd_B_numberAt_6 : decode mb_B_numberAt 6 = .ok (.bipush 64, 2) := by decide +kernel
theorem dd_B_numberAt_8 : decode mb_B_numberAt 8 = .ok (.irem, 1) := by decide +kernel
theorem dd_B_numberAt_9 : decode mb_B_numberAt 9 = .ok (.istore 4, 2) := by decide +kernel
theorem dd_B_numberAt_11 : decode mb_B_numberAt 11 = .ok (.aload_n 0, 1) := by decide +kernel
theorem dd_B_numberAt_12 : decode mb_B_numberAt 12 = .ok (.getfield 9, 3) := by decide +kernel
theorem dd_B_numberAt_15 : decode mb_B_numberAt 15 = .ok (.iload_n 3, 1) := by decide +kernel
theorem dd_B_numberAt_16 : decode mb_B_numberAt 16 = .ok (.laload, 1) := by decide +kernel
theorem dd_B_numberAt_17 : decode mb_B_numberAt 17 = .ok (.iload 4, 2) := by decide +kernel
theorem dd_B_numberAt_19 : decode mb_B_numberAt 19 = .ok (.lshl, 1) := by decide +kernel
theorem dd_B_numberAt_20 : decode mb_B_numberAt 20 = .ok (.lstore 5, 2) := by decide +kernel
theorem dd_B_numberAt_22 : decode mb_B_numberAt 22 = .ok (.iload 4, 2) := by decide +kernel
theorem dd_B_numberAt_24 : decode mb_B_numberAt 24 = .ok (.iload_n 2, 1) := by decide +kernel
theorem dd_B_numberAt_25 : decode mb_B_numberAt 25 = .ok (.iadd, 1) := by decide +kernel
theorem dd_B_numberAt_26 : decode mb_B_numberAt 26 = .ok (.bipush 64, 2) := by decide +kernel
theorem dd_B_numberAt_28 : decode mb_B_numberAt 28 = .ok (.if_icmp .le 22, 3) := by decide +kernel
theorem dd_B_numberAt_31 : decode mb_B_numberAt 31 = .ok (.lload 5, 2) := by decide +kernel
theorem dd_B_numberAt_33 : decode mb_B_numberAt 33 = .ok (.aload_n 0, 1) := by decide +kernel
theorem dd_B_numberAt_34 : decode mb_B_numberAt 34 = .ok (.getfield 9, 3) := by decide +kernel
theorem dd_B_numberAt_37 : decode mb_B_numberAt 37 = .ok (.iload_n 3, 1) := by decide +kernel
theorem dd_B_numberAt_38 : decode mb_B_numberAt 38 = .ok (.iconst 1, 1) := by decide +kernel
theorem dd_B_numberAt_39 : decode mb_B_numberAt 39 = .ok (.iadd, 1) := by decide +kernel
theorem dd_B_numberAt_40 : decode mb_B_numberAt 40 = .ok (.laload, 1) := by decide +kernel
theorem dd_B_numberAt_41 : decode mb_B_numberAt 41 = .ok (.bipush 64, 2) := by decide +kernel
theorem dd_B_numberAt_43 : decode mb_B_numberAt 43 = .ok (.iload 4, 2) := by decide +kernel
theorem dd_B_numberAt_45 : decode mb_B_numberAt 45 = .ok (.isub, 1) := by decide +kernel
theorem dd_B_numberAt_46 : decode mb_B_numberAt 46 = .ok (.lushr, 1) := by decide +kernel
theorem dd_B_numberAt_47 : decode mb_B_numberAt 47 = .ok (.lor, 1) := by decide +kernel
theorem dd_B_numberAt_48 : decode mb_B_numberAt 48 = .ok (.lstore 5, 2) := by decide +kernel
theorem dd_B_numberAt_50 : decode mb_B_numberAt 50 = .ok (.lload 5, 2) := by decide +kernel
theorem dd_B_numberAt_52 : decode mb_B_numberAt 52 = .ok (.bipush 64, 2) := by decide +kernel
theorem dd_B_numberAt_54 : decode mb_B_numberAt 54 = .ok (.iload_n 2, 1) := by decide +kernel
theorem dd_B_numberAt_55 : decode mb_B_numberAt 55 = .ok (.isub, 1) := by decide +kernel
theorem dd_B_numberAt_56 : decode mb_B_numberAt 56 = .ok (.lushr, 1) := by decide +kernel
theorem dd_B_numberAt_57 : decode mb_B_numberAt 57 = .ok (.lreturn, 1) := by decide +kernel
theorem dd_B_isOne_0 : decode mb_B_isOne 0 = .ok (.iload_n 1, 1) := by decide +kernel
theorem dd_B_isOne_1 : decode mb_B_isOne 1 = .ok (.ifCond .lt 11, 3) := by decide +kernel
theorem dd_B_isOne_4 : decode mb_B_isOne 4 = .ok (.iload_n 1, 1) := by decide +kernel
theorem dd_B_isOne_5 : decode mb_B_isOne 5 = .ok (.aload_n 0, 1) := by decide +kernel
theorem dd_B_isOne_6 : decode mb_B_isOne 6 = .ok (.getfield 15, 3) := by decide +kernel
theorem dd_B_isOne_9 : decode mb_B_isOne 9 = .ok (.if_icmp .lt 13, 3) := by decide +kernel
theorem dd_B_isOne_12 : decode mb_B_isOne 12 = .ok (.new 19, 3) := by decide +kernel
theorem dd_B_isOne_15 : decode mb_B_isOne 15 = .ok (.dup, 1) := by decide +kernel
theorem dd_B_isOne_16 : decode mb_B_isOne 16 = .ok (.ldc 21, 2) := by decide +kernel
theorem dd_B_isOne_18 : decode mb_B_isOne 18 = .ok (.invokespecial 23, 3) := by decide +kernel
theorem dd_B_isOne_21 : decode mb_B_isOne 21 = .ok (.athrow, 1) := by decide +kernel
theorem dd_B_isOne_22 : decode mb_B_isOne 22 = .ok (.aload_n 0, 1) := by decide +kernel
theorem dd_B_isOne_23 : decode mb_B_isOne 23 = .ok (.iload_n 1, 1) := by decide +kernel
theorem dd_B_isOne_24 : decode mb_B_isOne 24 = .ok (.iconst 1, 1) := by decide +kernel
theorem dd_B_isOne_25 : decode mb_B_isOne 25 = .ok (.invokevirtual 26, 3) := by decide +kernel
theorem dd_B_isOne_28 : decode mb_B_isOne 28 = .ok (.lconst 1, 1) := by decide +kernel
theorem dd_B_isOne_29 : decode mb_B_isOne 29 = .ok (.lcmp, 1) := by decide +kernel
theorem dd_B_isOne_30 : decode mb_B_isOne 30 = .ok (.ifCond .ne 7, 3) := by decide +kernel
theorem dd_B_isOne_33 : decode mb_B_isOne 33 = .ok (.iconst 1, 1) := by decide +kernel
theorem dd_B_isOne_34 : decode mb_B_isOne 34 = .ok (.goto 4, 3) := by decide +kernel
theorem dd_B_isOne_37 : decode mb_B_isOne 37 = .ok (.iconst 0, 1) := by decide +kernel
theorem dd_B_isOne_38 : decode mb_B_isOne 38 = .ok (.ireturn, 1) := by decide +kernel
theorem dd_B_invert_0 : decode mb_B_invert 0 = .ok (.iload_n 1, 1) := by decide +kernel
theorem dd_B_invert_1 : decode mb_B_invert 1 = .ok (.ifCond .lt 11, 3) := by decide +kernel
theorem dd_B_invert_4 : decode mb_B_invert 4 = .ok (.iload_n 1, 1) := by decide +kernel
theorem dd_B_invert_5 : decode mb_B_invert 5 = .ok (.aload_n 0, 1) := by decide +kernel
theorem dd_B_invert_6 : decode mb_B_invert 6 = .ok (.getfield 15, 3) := by decide +kernel
theorem dd_B_invert_9 : decode mb_B_invert 9 = .ok (.if_icmp .lt 13, 3) := by decide +kernel
theorem dd_B_invert_12 : decode mb_B_invert 12 = .ok (.new 19, 3) := by decide +kernel
theorem dd_B_invert_15 : decode mb_B_invert 15 = .ok (.dup, 1) := by decide +kernel
theorem dd_B_invert_16 : decode mb_B_invert 16 = .ok (.ldc 21, 2) := by decide +kernel
theorem dd_B_invert_18 : decode mb_B_invert 18 = .ok (.invokespecial 23, 3) := by decide +kernel
theorem dd_B_invert_21 : decode mb_B_invert 21 = .ok (.athrow, 1) := by decide +kernel
theorem dd_B_invert_22 : decode mb_B_invert 22 = .ok (.aload_n 0, 1) := by decide +kernel
theorem dd_B_invert_23 : decode mb_B_invert 23 = .ok (.getfield 9, 3) := by decide +kernel
theorem dd_B_invert_26 : decode mb_B_invert 26 = .ok (.iload_n 1, 1) := by decide +kernel
theorem dd_B_invert_27 : decode mb_B_invert 27 = .ok (.bipush 64, 2) := by decide +kernel
theorem dd_B_invert_29 : decode mb_B_invert 29 = .ok (.idiv, 1) := by decide +kernel
theorem dd_B_invert_30 : decode mb_B_invert 30 = .ok (.dup2, 1) := by decide +kernel
theorem dd_B_invert_31 : decode mb_B_invert 31 = .ok (.laload, 1) := by decide +kernel
theorem dd_B_invert_32 : decode mb_B_invert 32 = .ok (.lconst 1, 1) := by decide +kernel
theorem dd_B_invert_33 : decode mb_B_invert 33 = .ok (.bipush 63, 2) := by decide +kernel
theorem dd_B_invert_35 : decode mb_B_invert 35 = .ok (.iload_n 1, 1) := by decide +kernel
theorem dd_B_invert_36 : decode mb_B_invert 36 = .ok (.bipush 64, 2) := by decide +kernel
theorem dd_B_invert_38 : decode mb_B_invert 38 = .ok (.irem, 1) := by decide +kernel
theorem dd_B_invert_39 : decode mb_B_invert 39 = .ok (.isub, 1) := by decide +kernel
theorem dd_B_invert_40 : decode mb_B_invert 40 = .ok (.lshl, 1) := by decide +kernel
theorem dd_B_invert_41 : decode mb_B_invert 41 = .ok (.lxor, 1) := by decide +kernel
theorem dd_B_invert_42 : decode mb_B_invert 42 = .ok (.lastore, 1) := by decide +kernel
theorem dd_B_invert_43 : decode mb_B_invert 43 = .ok (.return_, 1) := by decide +kernel
