theorem dd_W_init_0 : decode mb_W_init 0 = .ok (.aload_n 0, 1) := by decide +kernel
theorem dd_W_init_1 : decode mb_W_init 1 = .ok (.invokespecial 3, 3) := by decide +kernel
theorem dd_W_init_4 : decode mb_W_init 4 = .ok (.aload_n 0, 1) := by decide +kernel
theorem dd_W_init_5 : decode mb_W_init 5 = .ok (.aload_n 1, 1) := by decide +kernel
theorem dd_W_init_6 : decode mb_W_init 6 = .ok (.putfield 9, 3) := by decide +kernel
theorem dd_W_init_9 : decode mb_W_init 9 = .ok (.aload_n 0, 1) := by decide +kernel
theorem dd_W_init_10 : decode mb_W_init 10 = .ok (.new 15, 3) := by decide +kernel
theorem dd_W_init_13 : decode mb_W_init 13 = .ok (.dup, 1) := by decide +kernel
theorem dd_W_init_14 : decode mb_W_init 14 = .ok (.invokespecial 17, 3) := by decide +kernel
theorem dd_W_init_17 : decode mb_W_init 17 = .ok (.putfield 18, 3) := by decide +kernel
theorem dd_W_init_20 : decode mb_W_init 20 = .ok (.aload_n 0, 1) := by decide +kernel
theorem dd_W_init_21 : decode mb_W_init 21 = .ok (.lconst 0, 1) := by decide +kernel
theorem dd_W_init_22 : decode mb_W_init 22 = .ok (.putfield 22, 3) := by decide +kernel
theorem dd_W_init_25 : decode mb_W_init 25 = .ok (.aload_n 0, 1) := by decide +kernel
theorem dd_W_init_26 : decode mb_W_init 26 = .ok (.lconst 0, 1) := by decide +kernel
theorem dd_W_init_27 : decode mb_W_init 27 = .ok (.putfield 26, 3) := by decide +kernel
theorem dd_W_init_30 : decode mb_W_init 30 = .ok (.aload_n 0, 1) := by decide +kernel
theorem dd_W_init_31 : decode mb_W_init 31 = .ok (.lconst 0, 1) := by decide +kernel
theorem dd_W_init_32 : decode mb_W_init 32 = .ok (.putfield 29, 3) := by decide +kernel
theorem dd_W_init_35 : decode mb_W_init 35 = .ok (.return_, 1) := by decide +kernel
theorem dd_W_writeAll_0 : decode mb_W_writeAll 0 = .ok (.aload_n 1, 1) := by decide +kernel
theorem dd_W_writeAll_1 : decode mb_W_writeAll 1 = .ok (.invokevirtual 32, 3) := by decide +kernel
theorem dd_W_writeAll_4 : decode mb_W_writeAll 4 = .ok (.istore_n 2, 1) := by decide +kernel
theorem dd_W_writeAll_5 : decode mb_W_writeAll 5 = .ok (.iconst 0, 1) := by decide +kernel
theorem dd_W_writeAll_6 : decode mb_W_writeAll 6 = .ok (.istore_n 3, 1) := by decide +kernel
theorem dd_W_writeAll_7 : decode mb_W_writeAll 7 = .ok (.iload_n 3, 1) := by decide +kernel
theorem dd_W_writeAll_8 : decode mb_W_writeAll 8 = .ok (.iload_n 2, 1) := by decide +kernel
theorem dd_W_writeAll_9 : decode mb_W_writeAll 9 = .ok (.if_icmp .ge 67, 3) := by decide +kernel
theorem dd_W_writeAll_12 : decode mb_W_writeAll 12 = .ok (.aload_n 1, 1) := by decide +kernel
theorem dd_W_writeAll_13 : decode mb_W_writeAll 13 = .ok (.iload_n 3, 1) := by decide +kernel
theorem dd_W_writeAll_14 : decode mb_W_writeAll 14 = .ok (.invokevirtual 38, 3) := by decide +kernel
theorem dd_W_writeAll_17 : decode mb_W_writeAll 17 = .ok (.lstore 4, 2) := by decide +kernel
theorem dd_W_writeAll_19 : decode mb_W_writeAll 19 = .ok (.aload_n 1, 1) := by decide +kernel
theorem dd_W_writeAll_20 : decode mb_W_writeAll 20 = .ok (.iload_n 3, 1) := by decide +kernel
theorem dd_W_writeAll_21 : decode mb_W_writeAll 21 = .ok (.invokevirtual 42, 3) := by decide +kernel
theorem dd_W_writeAll_24 : decode mb_W_writeAll 24 = .ok (.lstore 6, 2) := by decide +kernel
theorem dd_W_writeAll_26 : decode mb_W_writeAll 26 = .ok (.iload_n 3, 1) := by decide +kernel
theorem dd_W_writeAll_27 : decode mb_W_writeAll 27 = .ok (.ifCond .ne 14, 3) := by decide +kernel
theorem dd_W_writeAll_30 : decode mb_W_writeAll 30 = .ok (.aload_n 0, 1) := by decide +kernel
theorem dd_W_writeAll_31 : decode mb_W_writeAll 31 = .ok (.lload 4, 2) := by decide +kernel
theorem dd_W_writeAll_33 : decode mb_W_writeAll 33 = .ok (.lload 6, 2) := by decide +kernel
theorem dd_W_writeAll_35 : decode mb_W_writeAll 35 = .ok (.invokevirtual 45, 3) := by decide +kernel
theorem dd_W_writeAll_38 : decode mb_W_writeAll 38 = .ok (.goto 11, 3) := by decide +kernel
theorem dd_W_writeAll_41 : decode mb_W_writeAll 41 = .ok (.aload_n 0, 1) := by decide +kernel
theorem dd_W_writeAll_42 : decode mb_W_writeAll 42 = .ok (.lload 4, 2) := by decide +kernel
theorem dd_W_writeAll_44 : decode mb_W_writeAll 44 = .ok (.lload 6, 2) := by decide +kernel
theorem dd_W_writeAll_46 : decode mb_W_writeAll 46 = .ok (.invokevirtual 49, 3) := by decide +kernel
theorem dd_W_writeAll_49 : decode mb_W_writeAll 49 = .ok (.istore 8, 2) := by decide +kernel
theorem dd_W_writeAll_51 : decode mb_W_writeAll 51 = .ok (.iload 8, 2) := by decide +kernel
theorem dd_W_writeAll_53 : decode mb_W_writeAll 53 = .ok (.ifCond .ne 5, 3) := by decide +kernel
theorem dd_W_writeAll_56 : decode mb_W_writeAll 56 = .ok (.iconst 0, 1) := by decide +kernel
theorem dd_W_writeAll_57 : decode mb_W_writeAll 57 = .ok (.ireturn, 1) := by decide +kernel
theorem dd_W_writeAll_58 : decode mb_W_writeAll 58 = .ok (.aload_n 0, 1) := by decide +kernel
theorem dd_W_writeAll_59 : decode mb_W_writeAll 59 = .ok (.lload 4, 2) := by decide +kernel
theorem dd_W_writeAll_61 : decode mb_W_writeAll 61 = .ok (.putfield 22, 3) := by decide +kernel
theorem dd_W_writeAll_64 : decode mb_W_writeAll 64 = .ok (.aload_n 0, 1) := by decide +kernel
theorem dd_W_writeAll_65 : decode mb_W_writeAll 65 = .ok (.lload 6, 2) := by decide +kernel
theorem dd_W_writeAll_67 : decode mb_W_writeAll 67 = .ok (.putfield 29, 3) := by decide +kernel
theorem dd_W_writeAll_70 : decode mb_W_writeAll 70 = .ok (.iinc 3 1, 3) := by decide +kernel
theorem dd_W_writeAll_73 : decode mb_W_writeAll 73 = .ok (.goto (-66), 3) := by decide +kernel
theorem dd_W_writeAll_76 : decode mb_W_writeAll 76 = .ok (.iconst 1, 1) := by decide +kernel
theorem dd_W_writeAll_77 : decode mb_W_writeAll 77 = .ok (.ireturn, 1) := by decide +kernel
theorem dd_W_writeFirst_0 : decode mb_W_writeFirst 0 = .ok (.aload_n 0, 1) := by decide +kernel
theorem dd_W_writeFirst_1 : decode mb_W_writeFirst 1 = .ok (.getfield 9, 3) := by decide +kernel
theorem dd_W_writeFirst_4 : decode mb_W_writeFirst 4 = .ok (.lload_n 1, 1) := by decide +kernel
theorem dd_W_writeFirst_5 : decode mb_W_writeFirst 5 = .ok (.bipush 40, 2) := by decide +kernel
theorem dd_W_writeFirst_7 : decode mb_W_writeFirst 7 = .ok (.invokevirtual 52, 3) := by decide +kernel
theorem dd_W_writeFirst_10 : decode mb_W_writeFirst 10 = .ok (.ifCond .eq 20, 3) := by decide +kernel
theorem dd_W_writeFirst_13 : decode mb_W_writeFirst 13 = .ok (.aload_n 0, 1) := by decide +kernel
theorem dd_W_writeFirst_14 : decode mb_W_writeFirst 14 = .ok (.getfield 9, 3) := by decide +kernel
theorem dd_W_writeFirst_17 : decode mb_W_writeFirst 17 = .ok (.lload_n 3, 1) := by decide +kernel
theorem dd_W_writeFirst_18 : decode mb_W_writeFirst 18 = .ok (.bipush 64, 2) := by decide +kernel
theorem dd_W_writeFirst_20 : decode mb_W_writeFirst 20 = .ok (.invokevirtual 52, 3) := by decide +kernel
theorem dd_W_writeFirst_23 : decode mb_W_writeFirst 23 = .ok (.ifCond .eq 7, 3) := by decide +kernel
theorem dd_W_writeFirst_26 : decode mb_W_writeFirst 26 = .ok (.iconst 1, 1) := by decide +kernel
theorem dd_W_writeFirst_27 : decode mb_W_writeFirst 27 = .ok (.goto 4, 3) := by decide +kernel
theorem dd_W_writeFirst_30 : decode mb_W_writeFirst 30 = .ok (.iconst 0, 1) := by decide +kernel
theorem dd_W_writeFirst_31 : decode mb_W_writeFirst 31 = .ok (.ireturn, 1) := by decide +kernel
theorem dd_W_writeNext_0 : decode mb_W_writeNext 0 = .ok (.lload_n 1, 1) := by decide +kernel
theorem dd_W_writeNext_1 : decode mb_W_writeNext 1 = .ok (.aload_n 0, 1) := by decide +kernel
theorem dd_W_writeNext_2 : decode mb_W_writeNext 2 = .ok (.getfield 22, 3) := by decide +kernel
theorem dd_W_writeNext_5 : decode mb_W_writeNext 5 = .ok (.lsub, 1) := by decide +kernel
theorem dd_W_writeNext_6 : decode mb_W_writeNext 6 = .ok (.lstore 5, 2) := by decide +kernel
theorem dd_W_writeNext_8 : decode mb_W_writeNext 8 = .ok (.lload 5, 2) := by decide +kernel
theorem dd_W_writeNext_10 : decode mb_W_writeNext 10 = .ok (.aload_n 0, 1) := by decide +kernel
theorem dd_W_writeNext_11 : decode mb_W_writeNext 11 = .ok (.getfield 26, 3) := by decide +kernel
theorem dd_W_writeNext_14 : decode mb_W_writeNext 14 = .ok (.lsub, 1) := by decide +kernel
theorem dd_W_writeNext_15 : decode mb_W_writeNext 15 = .ok (.lstore 7, 2) := by decide +kernel
theorem dd_W_writeNext_17 : decode mb_W_writeNext 17 = .ok (.aload_n 0, 1) := by decide +kernel
theorem dd_W_writeNext_18 : decode mb_W_writeNext 18 = .ok (.lload 5, 2) := by decide +kernel
theorem dd_W_writeNext_20 : decode mb_W_writeNext 20 = .ok (.putfield 26, 3) := by decide +kernel
theorem dd_W_writeNext_23 : decode mb_W_writeNext 23 = .ok (.aload_n 0, 1) := by decide +kernel
theorem dd_W_writeNext_24 : decode mb_W_writeNext 24 = .ok (.lload 7, 2) := by decide +kernel
theorem dd_W_writeNext_26 : decode mb_W_writeNext 26 = .ok (.invokevirtual 58, 3) := by decide +kernel
theorem dd_W_writeNext_29 : decode mb_W_writeNext 29 = .ok (.ifCond .eq 20, 3) := by decide +kernel
theorem dd_W_writeNext_32 : decode mb_W_writeNext 32 = .ok (.aload_n 0, 1) := by decide +kernel
theorem dd_W_writeNext_33 : decode mb_W_writeNext 33 = .ok (.lload_n 3, 1) := by decide +kernel
theorem dd_W_writeNext_34 : decode mb_W_writeNext 34 = .ok (.aload_n 0, 1) := by decide +kernel
theorem dd_W_writeNext_35 : decode mb_W_writeNext 35 = .ok (.getfield 29, 3) := by decide +kernel
theorem dd_W_writeNext_38 : decode mb_W_writeNext 38 = .ok (.lxor, 1) := by decide +kernel
theorem dd_W_writeNext_39 : decode mb_W_writeNext 39 = .ok (.invokevirtual 62, 3) := by decide +kernel
theorem dd_W_writeNext_42 : decode mb_W_writeNext 42 = .ok (.ifCond .eq 7, 3) := by decide +kernel
theorem dd_W_writeNext_45 : decode mb_W_writeNext 45 = .ok (.iconst 1, 1) := by decide +kernel
theorem dd_W_writeNext_46 : decode mb_W_writeNext 46 = .ok (.goto 4, 3) := by decide +kernel
theorem dd_W_writeNext_49 : decode mb_W_writeNext 49 = .ok (.iconst 0, 1) := by decide +kernel
theorem dd_W_writeNext_50 : decode mb_W_writeNext 50 = .ok (.ireturn, 1) := by decide +kernel
theorem dd_W_writeTurn_0 : decode mb_W_writeTurn 0 = .ok (.lload_n 1, 1) := by decide +kernel
theorem dd_W_writeTurn_1 : decode mb_W_writeTurn 1 = .ok (.invokestatic 65, 3) := by decide +kernel
theorem dd_W_writeTurn_4 : decode mb_W_writeTurn 4 = .ok (.istore_n 3, 1) := by decide +kernel
theorem dd_W_writeTurn_5 : decode mb_W_writeTurn 5 = .ok (.getstatic 69, 3) := by decide +kernel
theorem dd_W_writeTurn_8 : decode mb_W_writeTurn 8 = .ok (.iload_n 3, 1) := by decide +kernel
theorem dd_W_writeTurn_9 : decode mb_W_writeTurn 9 = .ok (.iaload, 1) := by decide +kernel
theorem dd_W_writeTurn_10 : decode mb_W_writeTurn 10 = .ok (.istore 4, 2) := by decide +kernel
theorem dd_W_writeTurn_12 : decode mb_W_writeTurn 12 = .ok (.aload_n 0, 1) := by decide +kernel
theorem dd_W_writeTurn_13 : decode mb_W_writeTurn 13 = .ok (.iload_n 3, 1) := by decide +kernel
theorem dd_W_writeTurn_14 : decode mb_W_writeTurn 14 = .ok (.invokevirtual 73, 3) := by decide +kernel
theorem dd_W_writeTurn_17 : decode mb_W_writeTurn 17 = .ok (.ifCond .eq 27, 3) := by decide +kernel
theorem dd_W_writeTurn_20 : decode mb_W_writeTurn 20 = .ok (.aload_n 0, 1) := by decide +kernel
theorem dd_W_writeTurn_21 : decode mb_W_writeTurn 21 = .ok (.getfield 9, 3) := by decide +kernel
theorem dd_W_writeTurn_24 : decode mb_W_writeTurn 24 = .ok (.lload_n 1, 1) := by decide +kernel
theorem dd_W_writeTurn_25 : decode mb_W_writeTurn 25 = .ok (.lconst 1, 1) := by decide +kernel
theorem dd_W_writeTurn_26 : decode mb_W_writeTurn 26 = .ok (.iload 4, 2) := by decide +kernel
theorem dd_W_writeTurn_28 : decode mb_W_writeTurn 28 = .ok (.lshl, 1) := by decide +kernel
theorem dd_W_writeTurn_29 : decode mb_W_writeTurn 29 = .ok (.lconst 1, 1) := by decide +kernel
theorem dd_W_writeTurn_30 : decode mb_W_writeTurn 30 = .ok (.lsub, 1) := by decide +kernel
theorem dd_W_writeTurn_31 : decode mb_W_writeTurn 31 = .ok (.land, 1) := by decide +kernel
theorem dd_W_writeTurn_32 : decode mb_W_writeTurn 32 = .ok (.iload 4, 2) := by decide +kernel
theorem dd_W_writeTurn_34 : decode mb_W_writeTurn 34 = .ok (.invokevirtual 52, 3) := by decide +kernel
theorem dd_W_writeTurn_37 : decode mb_W_writeTurn 37 = .ok (.ifCond .eq 7, 3) := by decide +kernel
theorem dd_W_writeTurn_40 : decode mb_W_writeTurn 40 = .ok (.iconst 1, 1) := by decide +kernel
theorem dd_W_writeTurn_41 : decode mb_W_writeTurn 41 = .ok (.goto 4, 3) := by decide +kernel
theorem dd_W_writeTurn_44 : decode mb_W_writeTurn 44 = .ok (.iconst 0, 1) := by decide +kernel
theorem dd_W_writeTurn_45 : decode mb_W_writeTurn 45 = .ok (.ireturn, 1) := by decide +kernel
theorem dd_W_kindOf_0 : decode mb_W_kindOf 0 = .ok (.lload_n 0, 1) := by decide +kernel
theorem dd_W_kindOf_1 : decode mb_W_kindOf 1 = .ok (.lconst 0, 1) := by decide +kernel
theorem dd_W_kindOf_2 : decode mb_W_kindOf 2 = .ok (.lcmp, 1) := by decide +kernel
theorem dd_W_kindOf_3 : decode mb_W_kindOf 3 = .ok (.ifCond .ne 5, 3) := by decide +kernel
theorem dd_W_kindOf_6 : decode mb_W_kindOf 6 = .ok (.iconst 0, 1) := by decide +kernel
theorem dd_W_kindOf_7 : decode mb_W_kindOf 7 = .ok (.ireturn, 1) := by decide +kernel
theorem dd_W_kindOf_8 : decode mb_W_kindOf 8 = .ok (.iconst 1, 1) := by decide +kernel
theorem dd_W_kindOf_9 : decode mb_W_kindOf 9 = .ok (.istore_n 2, 1) := by decide +kernel
theorem dd_W_kindOf_10 : decode mb_W_kindOf 10 = .ok (.iload_n 2, 1) := by decide +kernel
theorem dd_W_kindOf_11 : decode mb_W_kindOf 11 = .ok (.iconst 4, 1) := by decide +kernel
theorem dd_W_kindOf_12 : decode mb_W_kindOf 12 = .ok (.if_icmp .ge 34, 3) := by decide +kernel
theorem dd_W_kindOf_15 : decode mb_W_kindOf 15 = .ok (.lconst 1, 1) := by decide +kernel
theorem dd_W_kindOf_16 : decode mb_W_kindOf 16 = .ok (.getstatic 69, 3) := by decide +kernel
theorem dd_W_kindOf_19 : decode mb_W_kindOf 19 = .ok (.iload_n 2, 1) := by decide +kernel
theorem dd_W_kindOf_20 : decode mb_W_kindOf 20 = .ok (.iaload, 1) := by decide +kernel
theorem dd_W_kindOf_21 : decode mb_W_kindOf 21 = .ok (.iconst 1, 1) := by decide +kernel
theorem dd_W_kindOf_22 : decode mb_W_kindOf 22 = .ok (.isub, 1) := by decide +kernel
theorem dd_W_kindOf_23 : decode mb_W_kindOf 23 = .ok (.lshl, 1) := by decide +kernel
theorem dd_W_kindOf_24 : decode mb_W_kindOf 24 = .ok (.lstore_n 3, 1) := by decide +kernel
theorem dd_W_kindOf_25 : decode mb_W_kindOf 25 = .ok (.lload_n 0, 1) := by decide +kernel
theorem dd_W_kindOf_26 : decode mb_W_kindOf 26 = .ok (.lload_n 3, 1) := by decide +kernel
theorem dd_W_kindOf_27 : decode mb_W_kindOf 27 = .ok (.lneg, 1) := by decide +kernel
theorem dd_W_kindOf_28 : decode mb_W_kindOf 28 = .ok (.lcmp, 1) := by decide +kernel
theorem dd_W_kindOf_29 : decode mb_W_kindOf 29 = .ok (.ifCond .lt 11, 3) := by decide +kernel
theorem dd_W_kindOf_32 : decode mb_W_kindOf 32 = .ok (.lload_n 0, 1) := by decide +kernel
theorem dd_W_kindOf_33 : decode mb_W_kindOf 33 = .ok (.lload_n 3, 1) := by decide +kernel
theorem dd_W_kindOf_34 : decode mb_W_kindOf 34 = .ok (.lcmp, 1) := by decide +kernel
theorem dd_W_kindOf_35 : decode mb_W_kindOf 35 = .ok (.ifCond .ge 5, 3) := by decide +kernel
theorem dd_W_kindOf_38 : decode mb_W_kindOf 38 = .ok (.iload_n 2, 1) := by decide +kernel
theorem dd_W_kindOf_39 : decode mb_W_kindOf 39 = .ok (.ireturn, 1) := by decide +kernel
theorem dd_W_kindOf_40 : decode mb_W_kindOf 40 = .ok (.iinc 2 1, 3) := by decide +kernel
theorem dd_W_kindOf_43 : decode mb_W_kindOf 43 = .ok (.goto (-33), 3) := by decide +kernel
theorem dd_W_kindOf_46 : decode mb_W_kindOf 46 = .ok (.iconst 4, 1) := by decide +kernel
theorem dd_W_kindOf_47 : decode mb_W_kindOf 47 = .ok (.ireturn, 1) := by decide +kernel
theorem dd_W_writeKind_0 : decode mb_W_writeKind 0 = .ok (.lconst 1, 1) := by decide +kernel
theorem dd_W_writeKind_1 : decode mb_W_writeKind 1 = .ok (.iload_n 1, 1) := by decide +kernel
theorem dd_W_writeKind_2 : decode mb_W_writeKind 2 = .ok (.lshl, 1) := by decide +kernel
theorem dd_W_writeKind_3 : decode mb_W_writeKind 3 = .ok (.lconst 1, 1) := by decide +kernel
theorem dd_W_writeKind_4 : decode mb_W_writeKind 4 = .ok (.lsub, 1) := by decide +kernel
theorem dd_W_writeKind_5 : decode mb_W_writeKind 5 = .ok (.lstore_n 2, 1) := by decide +kernel
theorem dd_W_writeKind_6 : decode mb_W_writeKind 6 = .ok (.iload_n 1, 1) := by decide +kernel
theorem dd_W_writeKind_7 : decode mb_W_writeKind 7 = .ok (.iconst 4, 1) := by decide +kernel
theorem dd_W_writeKind_8 : decode mb_W_writeKind 8 = .ok (.if_icmp .ne 15, 3) := by decide +kernel
theorem dd_W_writeKind_11 : decode mb_W_writeKind 11 = .ok (.aload_n 0, 1) := by decide +kernel
theorem dd_W_writeKind_12 : decode mb_W_writeKind 12 = .ok (.getfield 9, 3) := by decide +kernel
theorem dd_W_writeKind_15 : decode mb_W_writeKind 15 = .ok (.lload_n 2, 1) := by decide +kernel
theorem dd_W_writeKind_16 : decode mb_W_writeKind 16 = .ok (.iload_n 1, 1) := by decide +kernel
theorem dd_W_writeKind_17 : decode mb_W_writeKind 17 = .ok (.invokevirtual 52, 3) := by decide +kernel
theorem dd_W_writeKind_20 : decode mb_W_writeKind 20 = .ok (.goto 16, 3) := by decide +kernel
theorem dd_W_writeKind_23 : decode mb_W_writeKind 23 = .ok (.aload_n 0, 1) := by decide +kernel
theorem dd_W_writeKind_24 : decode mb_W_writeKind 24 = .ok (.getfield 9, 3) := by decide +kernel
theorem dd_W_writeKind_27 : decode mb_W_writeKind 27 = .ok (.lload_n 2, 1) := by decide +kernel
theorem dd_W_writeKind_28 : decode mb_W_writeKind 28 = .ok (.iconst 1, 1) := by decide +kernel
theorem dd_W_writeKind_29 : decode mb_W_writeKind 29 = .ok (.lshl, 1) := by decide +kernel
theorem dd_W_writeKind_30 : decode mb_W_writeKind 30 = .ok (.iload_n 1, 1) := by decide +kernel
theorem dd_W_writeKind_31 : decode mb_W_writeKind 31 = .ok (.iconst 1, 1) := by decide +kernel
theorem dd_W_writeKind_32 : decode mb_W_writeKind 32 = .ok (.iadd, 1) := by decide +kernel
theorem dd_W_writeKind_33 : decode mb_W_writeKind 33 = .ok (.invokevirtual 52, 3) := by decide +kernel
theorem dd_W_writeKind_36 : decode mb_W_writeKind 36 = .ok (.ireturn, 1) := by decide +kernel
theorem dd_W_writeDifference_0 : decode mb_W_writeDifference 0 = .ok (.lload_n 1, 1) := by decide +kernel
theorem dd_W_writeDifference_1 : decode mb_W_writeDifference 1 = .ok (.lconst 0, 1) := by decide +kernel
theorem dd_W_writeDifference_2 : decode mb_W_writeDifference 2 = .ok (.lcmp, 1) := by decide +kernel
theorem dd_W_writeDifference_3 : decode mb_W_writeDifference 3 = .ok (.ifCond .ne 13, 3) := by decide +kernel
theorem dd_W_writeDifference_6 : decode mb_W_writeDifference 6 = .ok (.aload_n 0, 1) := by decide +kernel
theorem dd_W_writeDifference_7 : decode mb_W_writeDifference 7 = .ok (.getfield 9, 3) := by decide +kernel
theorem dd_W_writeDifference_10 : decode mb_W_writeDifference 10 = .ok (.lconst 0, 1) := by decide +kernel
theorem dd_W_writeDifference_11 : decode mb_W_writeDifference 11 = .ok (.iconst 1, 1) := by decide +kernel
theorem dd_W_writeDifference_12 : decode mb_W_writeDifference 12 = .ok (.invokevirtual 52, 3) := by decide +kernel
theorem dd_W_writeDifference_15 : decode mb_W_writeDifference 15 = .ok (.ireturn, 1) := by decide +kernel
theorem dd_W_writeDifference_16 : decode mb_W_writeDifference 16 = .ok (.lload_n 1, 1) := by decide +kernel
theorem dd_W_writeDifference_17 : decode mb_W_writeDifference 17 = .ok (.invokestatic 77, 3) := by decide +kernel
theorem dd_W_writeDifference_20 : decode mb_W_writeDifference 20 = .ok (.bipush 31, 2) := by decide +kernel
theorem dd_W_writeDifference_22 : decode mb_W_writeDifference 22 = .ok (.invokestatic 82, 3) := by decide +kernel
theorem dd_W_writeDifference_25 : decode mb_W_writeDifference 25 = .ok (.istore_n 3, 1) := by decide +kernel
theorem dd_W_writeDifference_26 : decode mb_W_writeDifference 26 = .ok (.lload_n 1, 1) := by decide +kernel
theorem dd_W_writeDifference_27 : decode mb_W_writeDifference 27 = .ok (.invokestatic 88, 3) := by decide +kernel
theorem dd_W_writeDifference_30 : decode mb_W_writeDifference 30 = .ok (.istore 4, 2) := by decide +kernel
theorem dd_W_writeDifference_32 : decode mb_W_writeDifference 32 = .ok (.aload_n 0, 1) := by decide +kernel
theorem dd_W_writeDifference_33 : decode mb_W_writeDifference 33 = .ok (.getfield 18, 3) := by decide +kernel
theorem dd_W_writeDifference_36 : decode mb_W_writeDifference 36 = .ok (.iload_n 3, 1) := by decide +kernel
theorem dd_W_writeDifference_37 : decode mb_W_writeDifference 37 = .ok (.iload 4, 2) := by decide +kernel
theorem dd_W_writeDifference_39 : decode mb_W_writeDifference 39 = .ok (.invokevirtual 91, 3) := by decide +kernel
theorem dd_W_writeDifference_42 : decode mb_W_writeDifference 42 = .ok (.ifCond .eq 17, 3) := by decide +kernel
theorem dd_W_writeDifference_45 : decode mb_W_writeDifference 45 = .ok (.aload_n 0, 1) := by decide +kernel
theorem dd_W_writeDifference_46 : decode mb_W_writeDifference 46 = .ok (.getfield 9, 3) := by decide +kernel
theorem dd_W_writeDifference_49 : decode mb_W_writeDifference 49 = .ok (.ldc2_w 95, 3) := by decide +kernel
theorem dd_W_writeDifference_52 : decode mb_W_writeDifference 52 = .ok (.iconst 2, 1) := by decide +kernel
theorem dd_W_writeDifference_53 : decode mb_W_writeDifference 53 = .ok (.invokevirtual 52, 3) := by decide +kernel
theorem dd_W_writeDifference_56 : decode mb_W_writeDifference 56 = .ok (.goto 15, 3) := by decide +kernel
theorem dd_W_writeDifference_59 : decode mb_W_writeDifference 59 = .ok (.aload_n 0, 1) := by decide +kernel
theorem dd_W_writeDifference_60 : decode mb_W_writeDifference 60 = .ok (.iload_n 3, 1) := by decide +kernel
theorem dd_W_writeDifference_61 : decode mb_W_writeDifference 61 = .ok (.bipush 64, 2) := by decide +kernel
theorem dd_W_writeDifference_63 : decode mb_W_writeDifference 63 = .ok (.iload_n 3, 1) := by decide +kernel
theorem dd_W_writeDifference_64 : decode mb_W_writeDifference 64 = .ok (.isub, 1) := by decide +kernel
theorem dd_W_writeDifference_65 : decode mb_W_writeDifference 65 = .ok (.iload 4, 2) := by decide +kernel
theorem dd_W_writeDifference_67 : decode mb_W_writeDifference 67 = .ok (.isub, 1) := by decide +kernel
theorem dd_W_writeDifference_68 : decode mb_W_writeDifference 68 = .ok (.invokevirtual 97, 3) := by decide +kernel
theorem dd_W_writeDifference_71 : decode mb_W_writeDifference 71 = .ok (.istore 5, 2) := by decide +kernel
theorem dd_W_writeDifference_73 : decode mb_W_writeDifference 73 = .ok (.iload 5, 2) := by decide +kernel
theorem dd_W_writeDifference_75 : decode mb_W_writeDifference 75 = .ok (.ifCond .eq 33, 3) := by decide +kernel
theorem dd_W_writeDifference_78 : decode mb_W_writeDifference 78 = .ok (.aload_n 0, 1) := by decide +kernel
theorem dd_W_writeDifference_79 : decode mb_W_writeDifference 79 = .ok (.getfield 9, 3) := by decide +kernel
theorem dd_W_writeDifference_82 : decode mb_W_writeDifference 82 = .ok (.lload_n 1, 1) := by decide +kernel
theorem dd_W_writeDifference_83 : decode mb_W_writeDifference 83 = .ok (.aload_n 0, 1) := by decide +kernel
theorem dd_W_writeDifference_84 : decode mb_W_writeDifference 84 = .ok (.getfield 18, 3) := by decide +kernel
theorem dd_W_writeDifference_87 : decode mb_W_writeDifference 87 = .ok (.invokevirtual 100, 3) := by decide +kernel
theorem dd_W_writeDifference_90 : decode mb_W_writeDifference 90 = .ok (.lushr, 1) := by decide +kernel
theorem dd_W_writeDifference_91 : decode mb_W_writeDifference 91 = .ok (.aload_n 0, 1) := by decide +kernel
theorem dd_W_writeDifference_92 : decode mb_W_writeDifference 92 = .ok (.getfield 18, 3) := by decide +kernel
theorem dd_W_writeDifference_95 : decode mb_W_writeDifference 95 = .ok (.invokevirtual 103, 3) := by decide +kernel
theorem dd_W_writeDifference_98 : decode mb_W_writeDifference 98 = .ok (.invokevirtual 52, 3) := by decide +kernel
theorem dd_W_writeDifference_101 : decode mb_W_writeDifference 101 = .ok (.ifCond .eq 7, 3) := by decide +kernel
theorem dd_W_writeDifference_104 : decode mb_W_writeDifference 104 = .ok (.iconst 1, 1) := by decide +kernel
theorem dd_W_writeDifference_105 : decode mb_W_writeDifference 105 = .ok (.goto 4, 3) := by decide +kernel
theorem dd_W_writeDifference_108 : decode mb_W_writeDifference 108 = .ok (.iconst 0, 1) := by decide +kernel
theorem dd_W_writeDifference_109 : decode mb_W_writeDifference 109 = .ok (.ireturn, 1) := by decide +kernel
theorem dd_J_numberOfLeadingZeros_0 : decode mb_J_numberOfLeadingZeros 0 = .ok (.lload_n 0, 1) := by decide +kernel
theorem dd_J_numberOfLeadingZeros_1 : decode mb_J_numberOfLeadingZeros 1 = .ok (.bipush 32, 2) := by decide +kernel
theorem dd_J_numberOfLeadingZeros_3 : decode mb_J_numberOfLeadingZeros 3 = .ok (.lushr, 1) := by decide +kernel
theorem dd_J_numberOfLeadingZeros_4 : decode mb_J_numberOfLeadingZeros 4 = .ok (.l2i, 1) := by decide +kernel
theorem dd_J_numberOfLeadingZeros_5 : decode mb_J_numberOfLeadingZeros 5 = .ok (.istore_n 2, 1) := by decide +kernel
theorem dd_J_numberOfLeadingZeros_6 : decode mb_J_numberOfLeadingZeros 6 = .ok (.iload_n 2, 1) := by decide +kernel
theorem dd_J_numberOfLeadingZeros_7 : decode mb_J_numberOfLeadingZeros 7 = .ok (.ifCond .ne 14, 3) := by decide +kernel
theorem dd_J_numberOfLeadingZeros_10 : decode mb_J_numberOfLeadingZeros 10 = .ok (.bipush 32, 2) := by decide +kernel
theorem dd_J_numberOfLeadingZeros_12 : decode mb_J_numberOfLeadingZeros 12 = .ok (.lload_n 0, 1) := by decide +kernel
theorem dd_J_numberOfLeadingZeros_13 : decode mb_J_numberOfLeadingZeros 13 = .ok (.l2i, 1) := by decide +kernel
theorem dd_J_numberOfLeadingZeros_14 : decode mb_J_numberOfLeadingZeros 14 = .ok (.invokestatic 308, 3) := by decide +kernel
theorem dd_J_numberOfLeadingZeros_17 : decode mb_J_numberOfLeadingZeros 17 = .ok (.iadd, 1) := by decide +kernel
theorem dd_J_numberOfLeadingZeros_18 : decode mb_J_numberOfLeadingZeros 18 = .ok (.goto 7, 3) := by decide +kernel
theorem dd_J_numberOfLeadingZeros_21 : decode mb_J_numberOfLeadingZeros 21 = .ok (.iload_n 2, 1) := by decide +kernel
theorem dd_J_numberOfLeadingZeros_22 : decode mb_J_numberOfLeadingZeros 22 = .ok (.invokestatic 308, 3) := by decide +kernel
theorem dd_J_numberOfLeadingZeros_25 : decode mb_J_numberOfLeadingZeros 25 = .ok (.ireturn, 1) := by decide +kernel
theorem dd_I_numberOfLeadingZeros_0 : decode mb_I_numberOfLeadingZeros 0 = .ok (.iload_n 0, 1) := by decide +kernel
theorem dd_I_numberOfLeadingZeros_1 : decode mb_I_numberOfLeadingZeros 1 = .ok (.ifCond .gt 14, 3) := by decide +kernel
theorem dd_I_numberOfLeadingZeros_4 : decode mb_I_numberOfLeadingZeros 4 = .ok (.iload_n 0, 1) := by decide +kernel
theorem dd_I_numberOfLeadingZeros_5 : decode mb_I_numberOfLeadingZeros 5 = .ok (.ifCond .ne 8, 3) := by decide +kernel
theorem dd_I_numberOfLeadingZeros_8 : decode mb_I_numberOfLeadingZeros 8 = .ok (.bipush 32, 2) := by decide +kernel
theorem dd_I_numberOfLeadingZeros_10 : decode mb_I_numberOfLeadingZeros 10 = .ok (.goto 4, 3) := by decide +kernel
theorem dd_I_numberOfLeadingZeros_13 : decode mb_I_numberOfLeadingZeros 13 = .ok (.iconst 0, 1) := by decide +kernel
theorem dd_I_numberOfLeadingZeros_14 : decode mb_I_numberOfLeadingZeros 14 = .ok (.ireturn, 1) := by decide +kernel
theorem dd_I_numberOfLeadingZeros_15 : decode mb_I_numberOfLeadingZeros 15 = .ok (.bipush 31, 2) := by decide +kernel
theorem dd_I_numberOfLeadingZeros_17 : decode mb_I_numberOfLeadingZeros 17 = .ok (.istore_n 1, 1) := by decide +kernel
theorem dd_I_numberOfLeadingZeros_18 : decode mb_I_numberOfLeadingZeros 18 = .ok (.iload_n 0, 1) := by decide +kernel
theorem dd_I_numberOfLeadingZeros_19 : decode mb_I_numberOfLeadingZeros 19 = .ok (.ldc_w 264, 3) := by decide +kernel
theorem dd_I_numberOfLeadingZeros_22 : decode mb_I_numberOfLeadingZeros 22 = .ok (.if_icmp .lt 11, 3) := by decide +kernel
theorem dd_I_numberOfLeadingZeros_25 : decode mb_I_numberOfLeadingZeros 25 = .ok (.iinc 1 (-16), 3) := by decide +kernel
theorem dd_I_numberOfLeadingZeros_28 : decode mb_I_numberOfLeadingZeros 28 = .ok (.iload_n 0, 1) := by decide +kernel
theorem dd_I_numberOfLeadingZeros_29 : decode mb_I_numberOfLeadingZeros 29 = .ok (.bipush 16, 2) := by decide +kernel
theorem dd_I_numberOfLeadingZeros_31 : decode mb_I_numberOfLeadingZeros 31 = .ok (.iushr, 1) := by decide +kernel
theorem dd_I_numberOfLeadingZeros_32 : decode mb_I_numberOfLeadingZeros 32 = .ok (.istore_n 0, 1) := by decide +kernel
theorem dd_I_numberOfLeadingZeros_33 : decode mb_I_numberOfLeadingZeros 33 = .ok (.iload_n 0, 1) := by decide +kernel
theorem dd_I_numberOfLeadingZeros_34 : decode mb_I_numberOfLeadingZeros 34 = .ok (.sipush 256, 3) := by decide +kernel
theorem dd_I_numberOfLeadingZeros_37 : decode mb_I_numberOfLeadingZeros 37 = .ok (.if_icmp .lt 11, 3) := by decide +kernel
theorem dd_I_numberOfLeadingZeros_40 : decode mb_I_numberOfLeadingZeros 40 = .ok (.iinc 1 (-8), 3) := by decide +kernel
theorem dd_I_numberOfLeadingZeros_43 : decode mb_I_numberOfLeadingZeros 43 = .ok (.iload_n 0, 1) := by decide +kernel
theorem dd_I_numberOfLeadingZeros_44 : decode mb_I_numberOfLeadingZeros 44 = .ok (.bipush 8, 2) := by decide +kernel
theorem dd_I_numberOfLeadingZeros_46 : decode mb_I_numberOfLeadingZeros 46 = .ok (.iushr, 1) := by decide +kernel
theorem dd_I_numberOfLeadingZeros_47 : decode mb_I_numberOfLeadingZeros 47 = .ok (.istore_n 0, 1) := by decide +kernel
theorem dd_I_numberOfLeadingZeros_48 : decode mb_I_numberOfLeadingZeros 48 = .ok (.iload_n 0, 1) := by decide +kernel
theorem dd_I_numberOfLeadingZeros_49 : decode mb_I_numberOfLeadingZeros 49 = .ok (.bipush 16, 2) := by decide +kernel
theorem dd_I_numberOfLeadingZeros_51 : decode mb_I_numberOfLeadingZeros 51 = .ok (.if_icmp .lt 10, 3) := by decide +kernel
theorem dd_I_numberOfLeadingZeros_54 : decode mb_I_numberOfLeadingZeros 54 = .ok (.iinc 1 (-4), 3) := by decide +kernel
theorem dd_I_numberOfLeadingZeros_57 : decode mb_I_numberOfLeadingZeros 57 = .ok (.iload_n 0, 1) := by decide +kernel
theorem dd_I_numberOfLeadingZeros_58 : decode mb_I_numberOfLeadingZeros 58 = .ok (.iconst 4, 1) := by decide +kernel
theorem dd_I_numberOfLeadingZeros_59 : decode mb_I_numberOfLeadingZeros 59 = .ok (.iushr, 1) := by decide +kernel
theorem dd_I_numberOfLeadingZeros_60 : decode mb_I_numberOfLeadingZeros 60 = .ok (.istore_n 0, 1) := by decide +kernel
theorem dd_I_numberOfLeadingZeros_61 : decode mb_I_numberOfLeadingZeros 61 = .ok (.iload_n 0, 1) := by decide +kernel
theorem dd_I_numberOfLeadingZeros_62 : decode mb_I_numberOfLeadingZeros 62 = .ok (.iconst 4, 1) := by decide +kernel
theorem dd_I_numberOfLeadingZeros_63 : decode mb_I_numberOfLeadingZeros 63 = .ok (.if_icmp .lt 10, 3) := by decide +kernel
theorem dd_I_numberOfLeadingZeros_66 : decode mb_I_numberOfLeadingZeros 66 = .ok (.iinc 1 (-2), 3) := by decide +kernel
theorem dd_I_numberOfLeadingZeros_69 : decode mb_I_numberOfLeadingZeros 69 = .ok (.iload_n 0, 1) := by decide +kernel
theorem dd_I_numberOfLeadingZeros_70 : decode mb_I_numberOfLeadingZeros 70 = .ok (.iconst 2, 1) := by decide +kernel
theorem dd_I_numberOfLeadingZeros_71 : decode mb_I_numberOfLeadingZeros 71 = .ok (.iushr, 1) := by decide +kernel
theorem dd_I_numberOfLeadingZeros_72 : decode mb_I_numberOfLeadingZeros 72 = .ok (.istore_n 0, 1) := by decide +kernel
theorem dd_I_numberOfLeadingZeros_73 : decode mb_I_numberOfLeadingZeros 73 = .ok (.iload_n 1, 1) := by decide +kernel
theorem dd_I_numberOfLeadingZeros_74 : decode mb_I_numberOfLeadingZeros 74 = .ok (.iload_n 0, 1) := by decide +kernel
theorem dd_I_numberOfLeadingZeros_75 : decode mb_I_numberOfLeadingZeros 75 = .ok (.iconst 1, 1) := by decide +kernel
theorem dd_I_numberOfLeadingZeros_76 : decode mb_I_numberOfLeadingZeros 76 = .ok (.iushr, 1) := by decide +kernel
theorem dd_I_numberOfLeadingZeros_77 : decode mb_I_numberOfLeadingZeros 77 = .ok (.isub, 1) := by decide +kernel
theorem dd_I_numberOfLeadingZeros_78 : decode mb_I_numberOfLeadingZeros 78 = .ok (.ireturn, 1) := by decide +kernel
theorem dd_H_min_0 : decode mb_H_min 0 = .ok (.iload_n 0, 1) := by decide +kernel
theorem dd_H_min_1 : decode mb_H_min 1 = .ok (.iload_n 1, 1) := by decide +kernel
theorem dd_H_min_2 : decode mb_H_min 2 = .ok (.if_icmp .gt 7, 3) := by decide +kernel
theorem dd_H_min_5 : decode mb_H_min 5 = .ok (.iload_n 0, 1) := by decide +kernel
theorem dd_H_min_6 : decode mb_H_min 6 = .ok (.goto 4, 3) := by decide +kernel
theorem dd_H_min_9 : decode mb_H_min 9 = .ok (.iload_n 1, 1) := by decide +kernel
theorem dd_H_min_10 : decode mb_H_min 10 = .ok (.ireturn, 1) := by decide +kernel
theorem dd_J_numberOfTrailingZeros_0 : decode mb_J_numberOfTrailingZeros 0 = .ok (.lload_n 0, 1) := by decide +kernel
theorem dd_J_numberOfTrailingZeros_1 : decode mb_J_numberOfTrailingZeros 1 = .ok (.l2i, 1) := by decide +kernel
theorem dd_J_numberOfTrailingZeros_2 : decode mb_J_numberOfTrailingZeros 2 = .ok (.istore_n 2, 1) := by decide +kernel
theorem dd_J_numberOfTrailingZeros_3 : decode mb_J_numberOfTrailingZeros 3 = .ok (.iload_n 2, 1) := by decide +kernel
theorem dd_J_numberOfTrailingZeros_4 : decode mb_J_numberOfTrailingZeros 4 = .ok (.ifCond .ne 17, 3) := by decide +kernel
theorem dd_J_numberOfTrailingZeros_7 : decode mb_J_numberOfTrailingZeros 7 = .ok (.bipush 32, 2) := by decide +kernel
theorem dd_J_numberOfTrailingZeros_9 : decode mb_J_numberOfTrailingZeros 9 = .ok (.lload_n 0, 1) := by decide +kernel
theorem dd_J_numberOfTrailingZeros_10 : decode mb_J_numberOfTrailingZeros 10 = .ok (.bipush 32, 2) := by decide +kernel
theorem dd_J_numberOfTrailingZeros_12 : decode mb_J_numberOfTrailingZeros 12 = .ok (.lushr, 1) := by decide +kernel
theorem dd_J_numberOfTrailingZeros_13 : decode mb_J_numberOfTrailingZeros 13 = .ok (.l2i, 1) := by decide +kernel
theorem dd_J_numberOfTrailingZeros_14 : decode mb_J_numberOfTrailingZeros 14 = .ok (.invokestatic 311, 3) := by decide +kernel
theorem dd_J_numberOfTrailingZeros_17 : decode mb_J_numberOfTrailingZeros 17 = .ok (.iadd, 1) := by decide +kernel
theorem dd_J_numberOfTrailingZeros_18 : decode mb_J_numberOfTrailingZeros 18 = .ok (.goto 7, 3) := by decide +kernel
theorem dd_J_numberOfTrailingZeros_21 : decode mb_J_numberOfTrailingZeros 21 = .ok (.iload_n 2, 1) := by decide +kernel
theorem dd_J_numberOfTrailingZeros_22 : decode mb_J_numberOfTrailingZeros 22 = .ok (.invokestatic 311, 3) := by decide +kernel
theorem dd_J_numberOfTrailingZeros_25 : decode mb_J_numberOfTrailingZeros 25 = .ok (.ireturn, 1) := by decide +kernel
theorem dd_I_numberOfTrailingZeros_0 : decode mb_I_numberOfTrailingZeros 0 = .ok (.iload_n 0, 1) := by decide +kernel
theorem dd_I_numberOfTrailingZeros_1 : decode mb_I_numberOfTrailingZeros 1 = .ok (.iconst (-1), 1) := by decide +kernel
theorem dd_I_numberOfTrailingZeros_2 : decode mb_I_numberOfTrailingZeros 2 = .ok (.ixor, 1) := by decide +kernel
theorem dd_I_numberOfTrailingZeros_3 : decode mb_I_numberOfTrailingZeros 3 = .ok (.iload_n 0, 1) := by decide +kernel
theorem dd_I_numberOfTrailingZeros_4 : decode mb_I_numberOfTrailingZeros 4 = .ok (.iconst 1, 1) := by decide +kernel
theorem dd_I_numberOfTrailingZeros_5 : decode mb_I_numberOfTrailingZeros 5 = .ok (.isub, 1) := by decide +kernel
theorem dd_I_numberOfTrailingZeros_6 : decode mb_I_numberOfTrailingZeros 6 = .ok (.iand, 1) := by decide +kernel
theorem dd_I_numberOfTrailingZeros_7 : decode mb_I_numberOfTrailingZeros 7 = .ok (.istore_n 0, 1) := by decide +kernel
theorem dd_I_numberOfTrailingZeros_8 : decode mb_I_numberOfTrailingZeros 8 = .ok (.iload_n 0, 1) := by decide +kernel
theorem dd_I_numberOfTrailingZeros_9 : decode mb_I_numberOfTrailingZeros 9 = .ok (.ifCond .gt 8, 3) := by decide +kernel
theorem dd_I_numberOfTrailingZeros_12 : decode mb_I_numberOfTrailingZeros 12 = .ok (.iload_n 0, 1) := by decide +kernel
theorem dd_I_numberOfTrailingZeros_13 : decode mb_I_numberOfTrailingZeros 13 = .ok (.bipush 32, 2) := by decide +kernel
theorem dd_I_numberOfTrailingZeros_15 : decode mb_I_numberOfTrailingZeros 15 = .ok (.iand, 1) := by decide +kernel
theorem dd_I_numberOfTrailingZeros_16 : decode mb_I_numberOfTrailingZeros 16 = .ok (.ireturn, 1) := by decide +kernel
theorem dd_I_numberOfTrailingZeros_17 : decode mb_I_numberOfTrailingZeros 17 = .ok (.iconst 1, 1) := by decide +kernel
theorem dd_I_numberOfTrailingZeros_18 : decode mb_I_numberOfTrailingZeros 18 = .ok (.istore_n 1, 1) := by decide +kernel
theorem dd_I_numberOfTrailingZeros_19 : decode mb_I_numberOfTrailingZeros 19 = .ok (.iload_n 0, 1) := by decide +kernel
theorem dd_I_numberOfTrailingZeros_20 : decode mb_I_numberOfTrailingZeros 20 = .ok (.ldc_w 264, 3) := by decide +kernel
theorem dd_I_numberOfTrailingZeros_23 : decode mb_I_numberOfTrailingZeros 23 = .ok (.if_icmp .le 11, 3) := by decide +kernel
theorem dd_I_numberOfTrailingZeros_26 : decode mb_I_numberOfTrailingZeros 26 = .ok (.iinc 1 16, 3) := by decide +kernel
theorem dd_I_numberOfTrailingZeros_29 : decode mb_I_numberOfTrailingZeros 29 = .ok (.iload_n 0, 1) := by decide +kernel
theorem dd_I_numberOfTrailingZeros_30 : decode mb_I_numberOfTrailingZeros 30 = .ok (.bipush 16, 2) := by decide +kernel
theorem dd_I_numberOfTrailingZeros_32 : decode mb_I_numberOfTrailingZeros 32 = .ok (.iushr, 1) := by decide +kernel
theorem dd_I_numberOfTrailingZeros_33 : decode mb_I_numberOfTrailingZeros 33 = .ok (.istore_n 0, 1) := by decide +kernel
theorem dd_I_numberOfTrailingZeros_34 : decode mb_I_numberOfTrailingZeros 34 = .ok (.iload_n 0, 1) := by decide +kernel
theorem dd_I_numberOfTrailingZeros_35 : decode mb_I_numberOfTrailingZeros 35 = .ok (.sipush 256, 3) := by decide +kernel
theorem dd_I_numberOfTrailingZeros_38 : decode mb_I_numberOfTrailingZeros 38 = .ok (.if_icmp .le 11, 3) := by decide +kernel
theorem dd_I_numberOfTrailingZeros_41 : decode mb_I_numberOfTrailingZeros 41 = .ok (.iinc 1 8, 3) := by decide +kernel
theorem dd_I_numberOfTrailingZeros_44 : decode mb_I_numberOfTrailingZeros 44 = .ok (.iload_n 0, 1) := by decide +kernel
theorem dd_I_numberOfTrailingZeros_45 : decode mb_I_numberOfTrailingZeros 45 = .ok (.bipush 8, 2) := by decide +kernel
theorem dd_I_numberOfTrailingZeros_47 : decode mb_I_numberOfTrailingZeros 47 = .ok (.iushr, 1) := by decide +kernel
theorem dd_I_numberOfTrailingZeros_48 : decode mb_I_numberOfTrailingZeros 48 = .ok (.istore_n 0, 1) := by decide +kernel
theorem dd_I_numberOfTrailingZeros_49 : decode mb_I_numberOfTrailingZeros 49 = .ok (.iload_n 0, 1) := by decide +kernel
theorem dd_I_numberOfTrailingZeros_50 : decode mb_I_numberOfTrailingZeros 50 = .ok (.bipush 16, 2) := by decide +kernel
theorem dd_I_numberOfTrailingZeros_52 : decode mb_I_numberOfTrailingZeros 52 = .ok (.if_icmp .le 10, 3) := by decide +kernel
theorem dd_I_numberOfTrailingZeros_55 : decode mb_I_numberOfTrailingZeros 55 = .ok (.iinc 1 4, 3) := by decide +kernel
theorem dd_I_numberOfTrailingZeros_58 : decode mb_I_numberOfTrailingZeros 58 = .ok (.iload_n 0, 1) := by decide +kernel
theorem dd_I_numberOfTrailingZeros_59 : decode mb_I_numberOfTrailingZeros 59 = .ok (.iconst 4, 1) := by decide +kernel
theorem dd_I_numberOfTrailingZeros_60 : decode mb_I_numberOfTrailingZeros 60 = .ok (.iushr, 1) := by decide +kernel
theorem dd_I_numberOfTrailingZeros_61 : decode mb_I_numberOfTrailingZeros 61 = .ok (.istore_n 0, 1) := by decide +kernel
theorem dd_I_numberOfTrailingZeros_62 : decode mb_I_numberOfTrailingZeros 62 = .ok (.iload_n 0, 1) := by decide +kernel
theorem dd_I_numberOfTrailingZeros_63 : decode mb_I_numberOfTrailingZeros 63 = .ok (.iconst 4, 1) := by decide +kernel
theorem dd_I_numberOfTrailingZeros_64 : decode mb_I_numberOfTrailingZeros 64 = .ok (.if_icmp .le 10, 3) := by decide +kernel
theorem dd_I_numberOfTrailingZeros_67 : decode mb_I_numberOfTrailingZeros 67 = .ok (.iinc 1 2, 3) := by decide +kernel
theorem dd_I_numberOfTrailingZeros_70 : decode mb_I_numberOfTrailingZeros 70 = .ok (.iload_n 0, 1) := by decide +kernel
theorem dd_I_numberOfTrailingZeros_71 : decode mb_I_numberOfTrailingZeros 71 = .ok (.iconst 2, 1) := by decide +kernel
theorem dd_I_numberOfTrailingZeros_72 : decode mb_I_numberOfTrailingZeros 72 = .ok (.iushr, 1) := by decide +kernel
theorem dd_I_numberOfTrailingZeros_73 : decode mb_I_numberOfTrailingZeros 73 = .ok (.istore_n 0, 1) := by decide +kernel
theorem dd_I_numberOfTrailingZeros_74 : decode mb_I_numberOfTrailingZeros 74 = .ok (.iload_n 1, 1) := by decide +kernel
theorem dd_I_numberOfTrailingZeros_75 : decode mb_I_numberOfTrailingZeros 75 = .ok (.iload_n 0, 1) := by decide +kernel
theorem dd_I_numberOfTrailingZeros_76 : decode mb_I_numberOfTrailingZeros 76 = .ok (.iconst 1, 1) := by decide +kernel
theorem dd_I_numberOfTrailingZeros_77 : decode mb_I_numberOfTrailingZeros 77 = .ok (.iushr, 1) := by decide +kernel
theorem dd_I_numberOfTrailingZeros_78 : decode mb_I_numberOfTrailingZeros 78 = .ok (.iadd, 1) := by decide +kernel
theorem dd_I_numberOfTrailingZeros_79 : decode mb_I_numberOfTrailingZeros 79 = .ok (.ireturn, 1) := by decide +kernel
theorem dd_W_writeFrame_0 : decode mb_W_writeFrame 0 = .ok (.aload_n 0, 1) := by decide +kernel
theorem dd_W_writeFrame_1 : decode mb_W_writeFrame 1 = .ok (.getfield 18, 3) := by decide +kernel
theorem dd_W_writeFrame_4 : decode mb_W_writeFrame 4 = .ok (.iload_n 1, 1) := by decide +kernel
theorem dd_W_writeFrame_5 : decode mb_W_writeFrame 5 = .ok (.iload_n 2, 1) := by decide +kernel
theorem dd_W_writeFrame_6 : decode mb_W_writeFrame 6 = .ok (.invokevirtual 106, 3) := by decide +kernel
theorem dd_W_writeFrame_9 : decode mb_W_writeFrame 9 = .ok (.aload_n 0, 1) := by decide +kernel
theorem dd_W_writeFrame_10 : decode mb_W_writeFrame 10 = .ok (.getfield 9, 3) := by decide +kernel
theorem dd_W_writeFrame_13 : decode mb_W_writeFrame 13 = .ok (.ldc2_w 110, 3) := by decide +kernel
theorem dd_W_writeFrame_16 : decode mb_W_writeFrame 16 = .ok (.iconst 2, 1) := by decide +kernel
theorem dd_W_writeFrame_17 : decode mb_W_writeFrame 17 = .ok (.invokevirtual 52, 3) := by decide +kernel
theorem dd_W_writeFrame_20 : decode mb_W_writeFrame 20 = .ok (.ifCond .eq 36, 3) := by decide +kernel
theorem dd_W_writeFrame_23 : decode mb_W_writeFrame 23 = .ok (.aload_n 0, 1) := by decide +kernel
theorem dd_W_writeFrame_24 : decode mb_W_writeFrame 24 = .ok (.getfield 9, 3) := by decide +kernel
theorem dd_W_writeFrame_27 : decode mb_W_writeFrame 27 = .ok (.iload_n 1, 1) := by decide +kernel
theorem dd_W_writeFrame_28 : decode mb_W_writeFrame 28 = .ok (.i2l, 1) := by decide +kernel
theorem dd_W_writeFrame_29 : decode mb_W_writeFrame 29 = .ok (.iconst 5, 1) := by decide +kernel
theorem dd_W_writeFrame_30 : decode mb_W_writeFrame 30 = .ok (.invokevirtual 52, 3) := by decide +kernel
theorem dd_W_writeFrame_33 : decode mb_W_writeFrame 33 = .ok (.ifCond .eq 23, 3) := by decide +kernel
theorem dd_W_writeFrame_36 : decode mb_W_writeFrame 36 = .ok (.aload_n 0, 1) := by decide +kernel
theorem dd_W_writeFrame_37 : decode mb_W_writeFrame 37 = .ok (.getfield 9, 3) := by decide +kernel
theorem dd_W_writeFrame_40 : decode mb_W_writeFrame 40 = .ok (.iload_n 2, 1) := by decide +kernel
theorem dd_W_writeFrame_41 : decode mb_W_writeFrame 41 = .ok (.iconst 1, 1) := by decide +kernel
theorem dd_W_writeFrame_42 : decode mb_W_writeFrame 42 = .ok (.isub, 1) := by decide +kernel
theorem dd_W_writeFrame_43 : decode mb_W_writeFrame 43 = .ok (.i2l, 1) := by decide +kernel
theorem dd_W_writeFrame_44 : decode mb_W_writeFrame 44 = .ok (.bipush 6, 2) := by decide +kernel
theorem dd_W_writeFrame_46 : decode mb_W_writeFrame 46 = .ok (.invokevirtual 52, 3) := by decide +kernel
theorem dd_W_writeFrame_49 : decode mb_W_writeFrame 49 = .ok (.ifCond .eq 7, 3) := by decide +kernel
theorem dd_W_writeFrame_52 : decode mb_W_writeFrame 52 = .ok (.iconst 1, 1) := by decide +kernel
theorem dd_W_writeFrame_53 : decode mb_W_writeFrame 53 = .ok (.goto 4, 3) := by decide +kernel
theorem dd_W_writeFrame_56 : decode mb_W_writeFrame 56 = .ok (.iconst 0, 1) := by decide +kernel
theorem dd_W_writeFrame_57 : decode mb_W_writeFrame 57 = .ok (.ireturn, 1) := by decide +kernel
theorem dd_R_init_0 : decode mb_R_init 0 = .ok (.aload_n 0, 1) := by decide +kernel
theorem dd_R_init_1 : decode mb_R_init 1 = .ok (.invokespecial 3, 3) := by decide +kernel
theorem dd_R_init_4 : decode mb_R_init 4 = .ok (.aload_n 0, 1) := by decide +kernel
theorem dd_R_init_5 : decode mb_R_init 5 = .ok (.aload_n 1, 1) := by decide +kernel
theorem dd_R_init_6 : decode mb_R_init 6 = .ok (.putfield 9, 3) := by decide +kernel
theorem dd_R_init_9 : decode mb_R_init 9 = .ok (.aload_n 0, 1) := by decide +kernel
theorem dd_R_init_10 : decode mb_R_init 10 = .ok (.new 15, 3) := by decide +kernel
theorem dd_R_init_13 : decode mb_R_init 13 = .ok (.dup, 1) := by decide +kernel
theorem dd_R_init_14 : decode mb_R_init 14 = .ok (.invokespecial 17, 3) := by decide +kernel
theorem dd_R_init_17 : decode mb_R_init 17 = .ok (.putfield 18, 3) := by decide +kernel
theorem dd_R_init_20 : decode mb_R_init 20 = .ok (.aload_n 0, 1) := by decide +kernel
theorem dd_R_init_21 : decode mb_R_init 21 = .ok (.iconst 0, 1) := by decide +kernel
theorem dd_R_init_22 : decode mb_R_init 22 = .ok (.putfield 22, 3) := by decide +kernel
theorem dd_R_init_25 : decode mb_R_init 25 = .ok (.aload_n 0, 1) := by decide +kernel
theorem dd_R_init_26 : decode mb_R_init 26 = .ok (.lconst 0, 1) := by decide +kernel
theorem dd_R_init_27 : decode mb_R_init 27 = .ok (.putfield 26, 3) := by decide +kernel
theorem dd_R_init_30 : decode mb_R_init 30 = .ok (.aload_n 0, 1) := by decide +kernel
theorem dd_R_init_31 : decode mb_R_init 31 = .ok (.lconst 0, 1) := by decide +kernel
theorem dd_R_init_32 : decode mb_R_init 32 = .ok (.putfield 30, 3) := by decide +kernel
theorem dd_R_init_35 : decode mb_R_init 35 = .ok (.aload_n 0, 1) := by decide +kernel
theorem dd_R_init_36 : decode mb_R_init 36 = .ok (.lconst 0, 1) := by decide +kernel
theorem dd_R_init_37 : decode mb_R_init 37 = .ok (.putfield 33, 3) := by decide +kernel
theorem dd_R_init_40 : decode mb_R_init 40 = .ok (.aload_n 0, 1) := by decide +kernel
theorem dd_R_init_41 : decode mb_R_init 41 = .ok (.lconst 0, 1) := by decide +kernel
theorem dd_R_init_42 : decode mb_R_init 42 = .ok (.putfield 36, 3) := by decide +kernel
theorem dd_R_init_45 : decode mb_R_init 45 = .ok (.return_, 1) := by decide +kernel
theorem dd_R_readAll_0 : decode mb_R_readAll 0 = .ok (.iconst 0, 1) := by decide +kernel
theorem dd_R_readAll_1 : decode mb_R_readAll 1 = .ok (.istore_n 3, 1) := by decide +kernel
theorem dd_R_readAll_2 : decode mb_R_readAll 2 = .ok (.iload_n 3, 1) := by decide +kernel
theorem dd_R_readAll_3 : decode mb_R_readAll 3 = .ok (.iload_n 1, 1) := by decide +kernel
theorem dd_R_readAll_4 : decode mb_R_readAll 4 = .ok (.if_icmp .ge 48, 3) := by decide +kernel
theorem dd_R_readAll_7 : decode mb_R_readAll 7 = .ok (.iload_n 3, 1) := by decide +kernel
theorem dd_R_readAll_8 : decode mb_R_readAll 8 = .ok (.ifCond .ne 10, 3) := by decide +kernel
theorem dd_R_readAll_11 : decode mb_R_readAll 11 = .ok (.aload_n 0, 1) := by decide +kernel
theorem dd_R_readAll_12 : decode mb_R_readAll 12 = .ok (.invokevirtual 39, 3) := by decide +kernel
theorem dd_R_readAll_15 : decode mb_R_readAll 15 = .ok (.goto 7, 3) := by decide +kernel
theorem dd_R_readAll_18 : decode mb_R_readAll 18 = .ok (.aload_n 0, 1) := by decide +kernel
theorem dd_R_readAll_19 : decode mb_R_readAll 19 = .ok (.invokevirtual 43, 3) := by decide +kernel
theorem dd_R_readAll_22 : decode mb_R_readAll 22 = .ok (.istore 4, 2) := by decide +kernel
theorem dd_R_readAll_24 : decode mb_R_readAll 24 = .ok (.iload 4, 2) := by decide +kernel
theorem dd_R_readAll_26 : decode mb_R_readAll 26 = .ok (.ifCond .eq 18, 3) := by decide +kernel
theorem dd_R_readAll_29 : decode mb_R_readAll 29 = .ok (.aload_n 2, 1) := by decide +kernel
theorem dd_R_readAll_30 : decode mb_R_readAll 30 = .ok (.aload_n 0, 1) := by decide +kernel
theorem dd_R_readAll_31 : decode mb_R_readAll 31 = .ok (.getfield 30, 3) := by decide +kernel
theorem dd_R_readAll_34 : decode mb_R_readAll 34 = .ok (.aload_n 0, 1) := by decide +kernel
theorem dd_R_readAll_35 : decode mb_R_readAll 35 = .ok (.getfield 36, 3) := by decide +kernel
theorem dd_R_readAll_38 : decode mb_R_readAll 38 = .ok (.invokevirtual 46, 3) := by decide +kernel
theorem dd_R_readAll_41 : decode mb_R_readAll 41 = .ok (.ifCond .ne 5, 3) := by decide +kernel
theorem dd_R_readAll_44 : decode mb_R_readAll 44 = .ok (.iconst 0, 1) := by decide +kernel
theorem dd_R_readAll_45 : decode mb_R_readAll 45 = .ok (.ireturn, 1) := by decide +kernel
theorem dd_R_readAll_46 : decode mb_R_readAll 46 = .ok (.iinc 3 1, 3) := by decide +kernel
theorem dd_R_readAll_49 : decode mb_R_readAll 49 = .ok (.goto (-47), 3) := by decide +kernel
theorem dd_R_readAll_52 : decode mb_R_readAll 52 = .ok (.iconst 1, 1) := by decide +kernel
theorem dd_R_readAll_53 : decode mb_R_readAll 53 = .ok (.ireturn, 1) := by decide +kernel
theorem dd_R_readFirst_0 : decode mb_R_readFirst 0 = .ok (.aload_n 0, 1) := by decide +kernel
theorem dd_R_readFirst_1 : decode mb_R_readFirst 1 = .ok (.bipush 40, 2) := by decide +kernel
theorem dd_R_readFirst_3 : decode mb_R_readFirst 3 = .ok (.invokevirtual 62, 3) := by decide +kernel
theorem dd_R_readFirst_6 : decode mb_R_readFirst 6 = .ok (.ifCond .ne 5, 3) := by decide +kernel
theorem dd_R_readFirst_9 : decode mb_R_readFirst 9 = .ok (.iconst 0, 1) := by decide +kernel
theorem dd_R_readFirst_10 : decode mb_R_readFirst 10 = .ok (.ireturn, 1) := by decide +kernel
theorem dd_R_readFirst_11 : decode mb_R_readFirst 11 = .ok (.aload_n 0, 1) := by decide +kernel
theorem dd_R_readFirst_12 : decode mb_R_readFirst 12 = .ok (.aload_n 0, 1) := by decide +kernel
theorem dd_R_readFirst_13 : decode mb_R_readFirst 13 = .ok (.getfield 26, 3) := by decide +kernel
theorem dd_R_readFirst_16 : decode mb_R_readFirst 16 = .ok (.putfield 30, 3) := by decide +kernel
theorem dd_R_readFirst_19 : decode mb_R_readFirst 19 = .ok (.aload_n 0, 1) := by decide +kernel
theorem dd_R_readFirst_20 : decode mb_R_readFirst 20 = .ok (.bipush 64, 2) := by decide +kernel
theorem dd_R_readFirst_22 : decode mb_R_readFirst 22 = .ok (.invokevirtual 62, 3) := by decide +kernel
theorem dd_R_readFirst_25 : decode mb_R_readFirst 25 = .ok (.ifCond .ne 5, 3) := by decide +kernel
theorem dd_R_readFirst_28 : decode mb_R_readFirst 28 = .ok (.iconst 0, 1) := by decide +kernel
theorem dd_R_readFirst_29 : decode mb_R_readFirst 29 = .ok (.ireturn, 1) := by decide +kernel
theorem dd_R_readFirst_30 : decode mb_R_readFirst 30 = .ok (.aload_n 0, 1) := by decide +kernel
theorem dd_R_readFirst_31 : decode mb_R_readFirst 31 = .ok (.aload_n 0, 1) := by decide +kernel
theorem dd_R_readFirst_32 : decode mb_R_readFirst 32 = .ok (.getfield 26, 3) := by decide +kernel
theorem dd_R_readFirst_35 : decode mb_R_readFirst 35 = .ok (.putfield 36, 3) := by decide +kernel
theorem dd_R_readFirst_38 : decode mb_R_readFirst 38 = .ok (.iconst 1, 1) := by decide +kernel
theorem dd_R_readFirst_39 : decode mb_R_readFirst 39 = .ok (.ireturn, 1) := by decide +kernel
theorem dd_R_take_0 : decode mb_R_take 0 = .ok (.aload_n 0, 1) := by decide +kernel
theorem dd_R_take_1 : decode mb_R_take 1 = .ok (.getfield 9, 3) := by decide +kernel
theorem dd_R_take_4 : decode mb_R_take 4 = .ok (.aload_n 0, 1) := by decide +kernel
theorem dd_R_take_5 : decode mb_R_take 5 = .ok (.getfield 22, 3) := by decide +kernel
theorem dd_R_take_8 : decode mb_R_take 8 = .ok (.iload_n 1, 1) := by decide +kernel
theorem dd_R_take_9 : decode mb_R_take 9 = .ok (.invokevirtual 52, 3) := by decide +kernel
theorem dd_R_take_12 : decode mb_R_take 12 = .ok (.ifCond .ne 5, 3) := by decide +kernel
theorem dd_R_take_15 : decode mb_R_take 15 = .ok (.iconst 0, 1) := by decide +kernel
theorem dd_R_take_16 : decode mb_R_take 16 = .ok (.ireturn, 1) := by decide +kernel
theorem dd_R_take_17 : decode mb_R_take 17 = .ok (.aload_n 0, 1) := by decide +kernel
theorem dd_R_take_18 : decode mb_R_take 18 = .ok (.aload_n 0, 1) := by decide +kernel
theorem dd_R_take_19 : decode mb_R_take 19 = .ok (.getfield 9, 3) := by decide +kernel
theorem dd_R_take_22 : decode mb_R_take 22 = .ok (.aload_n 0, 1) := by decide +kernel
theorem dd_R_take_23 : decode mb_R_take 23 = .ok (.getfield 22, 3) := by decide +kernel
theorem dd_R_take_26 : decode mb_R_take 26 = .ok (.iload_n 1, 1) := by decide +kernel
theorem dd_R_take_27 : decode mb_R_take 27 = .ok (.invokevirtual 58, 3) := by decide +kernel
theorem dd_R_take_30 : decode mb_R_take 30 = .ok (.putfield 26, 3) := by decide +kernel
theorem dd_R_take_33 : decode mb_R_take 33 = .ok (.aload_n 0, 1) := by decide +kernel
theorem dd_R_take_34 : decode mb_R_take 34 = .ok (.dup, 1) := by decide +kernel
theorem dd_R_take_35 : decode mb_R_take 35 = .ok (.getfield 22, 3) := by decide +kernel
theorem dd_R_take_38 : decode mb_R_take 38 = .ok (.iload_n 1, 1) := by decide +kernel
theorem dd_R_take_39 : decode mb_R_take 39 = .ok (.iadd, 1) := by decide +kernel
theorem dd_R_take_40 : decode mb_R_take 40 = .ok (.putfield 22, 3) := by decide +kernel
theorem dd_R_take_43 : decode mb_R_take 43 = .ok (.iconst 1, 1) := by decide +kernel
theorem dd_R_take_44 : decode mb_R_take 44 = .ok (.ireturn, 1) := by decide +kernel
theorem dd_R_readNext_0 : decode mb_R_readNext 0 = .ok (.aload_n 0, 1) := by decide +kernel
theorem dd_R_readNext_1 : decode mb_R_readNext 1 = .ok (.invokevirtual 66, 3) := by decide +kernel
theorem dd_R_readNext_4 : decode mb_R_readNext 4 = .ok (.ifCond .eq 14, 3) := by decide +kernel
theorem dd_R_readNext_7 : decode mb_R_readNext 7 = .ok (.aload_n 0, 1) := by decide +kernel
theorem dd_R_readNext_8 : decode mb_R_readNext 8 = .ok (.invokevirtual 69, 3) := by decide +kernel
theorem dd_R_readNext_11 : decode mb_R_readNext 11 = .ok (.ifCond .eq 7, 3) := by decide +kernel
theorem dd_R_readNext_14 : decode mb_R_readNext 14 = .ok (.iconst 1, 1) := by decide +kernel
theorem dd_R_readNext_15 : decode mb_R_readNext 15 = .ok (.goto 4, 3) := by decide +kernel
theorem dd_R_readNext_18 : decode mb_R_readNext 18 = .ok (.iconst 0, 1) := by decide +kernel
theorem dd_R_readNext_19 : decode mb_R_readNext 19 = .ok (.ireturn, 1) := by decide +kernel
theorem dd_R_readTurn_0 : decode mb_R_readTurn 0 = .ok (.aload_n 0, 1) := by decide +kernel
theorem dd_R_readTurn_1 : decode mb_R_readTurn 1 = .ok (.invokevirtual 72, 3) := by decide +kernel
theorem dd_R_readTurn_4 : decode mb_R_readTurn 4 = .ok (.istore_n 1, 1) := by decide +kernel
theorem dd_R_readTurn_5 : decode mb_R_readTurn 5 = .ok (.iload_n 1, 1) := by decide +kernel
theorem dd_R_readTurn_6 : decode mb_R_readTurn 6 = .ok (.iconst (-1), 1) := by decide +kernel
theorem dd_R_readTurn_7 : decode mb_R_readTurn 7 = .ok (.if_icmp .ne 5, 3) := by decide +kernel
theorem dd_R_readTurn_10 : decode mb_R_readTurn 10 = .ok (.iconst 0, 1) := by decide +kernel
theorem dd_R_readTurn_11 : decode mb_R_readTurn 11 = .ok (.ireturn, 1) := by decide +kernel
theorem dd_R_readTurn_12 : decode mb_R_readTurn 12 = .ok (.iload_n 1, 1) := by decide +kernel
theorem dd_R_readTurn_13 : decode mb_R_readTurn 13 = .ok (.ifCond .le 36, 3) := by decide +kernel
theorem dd_R_readTurn_16 : decode mb_R_readTurn 16 = .ok (.getstatic 76, 3) := by decide +kernel
theorem dd_R_readTurn_19 : decode mb_R_readTurn 19 = .ok (.iload_n 1, 1) := by decide +kernel
theorem dd_R_readTurn_20 : decode mb_R_readTurn 20 = .ok (.iaload, 1) := by decide +kernel
theorem dd_R_readTurn_21 : decode mb_R_readTurn 21 = .ok (.istore_n 2, 1) := by decide +kernel
theorem dd_R_readTurn_22 : decode mb_R_readTurn 22 = .ok (.aload_n 0, 1) := by decide +kernel
theorem dd_R_readTurn_23 : decode mb_R_readTurn 23 = .ok (.iload_n 2, 1) := by decide +kernel
theorem dd_R_readTurn_24 : decode mb_R_readTurn 24 = .ok (.invokevirtual 62, 3) := by decide +kernel
theorem dd_R_readTurn_27 : decode mb_R_readTurn 27 = .ok (.ifCond .ne 5, 3) := by decide +kernel
theorem dd_R_readTurn_30 : decode mb_R_readTurn 30 = .ok (.iconst 0, 1) := by decide +kernel
theorem dd_R_readTurn_31 : decode mb_R_readTurn 31 = .ok (.ireturn, 1) := by decide +kernel
theorem dd_R_readTurn_32 : decode mb_R_readTurn 32 = .ok (.aload_n 0, 1) := by decide +kernel
theorem dd_R_readTurn_33 : decode mb_R_readTurn 33 = .ok (.dup, 1) := by decide +kernel
theorem dd_R_readTurn_34 : decode mb_R_readTurn 34 = .ok (.getfield 33, 3) := by decide +kernel
theorem dd_R_readTurn_37 : decode mb_R_readTurn 37 = .ok (.aload_n 0, 1) := by decide +kernel
theorem dd_R_readTurn_38 : decode mb_R_readTurn 38 = .ok (.getfield 26, 3) := by decide +kernel
theorem dd_R_readTurn_41 : decode mb_R_readTurn 41 = .ok (.iload_n 2, 1) := by decide +kernel
theorem dd_R_readTurn_42 : decode mb_R_readTurn 42 = .ok (.invokestatic 80, 3) := by decide +kernel
theorem dd_R_readTurn_45 : decode mb_R_readTurn 45 = .ok (.ladd, 1) := by decide +kernel
theorem dd_R_readTurn_46 : decode mb_R_readTurn 46 = .ok (.putfield 33, 3) := by decide +kernel
theorem dd_R_readTurn_49 : decode mb_R_readTurn 49 = .ok (.aload_n 0, 1) := by decide +kernel
theorem dd_R_readTurn_50 : decode mb_R_readTurn 50 = .ok (.dup, 1) := by decide +kernel
theorem dd_R_readTurn_51 : decode mb_R_readTurn 51 = .ok (.getfield 30, 3) := by decide +kernel
theorem dd_R_readTurn_54 : decode mb_R_readTurn 54 = .ok (.aload_n 0, 1) := by decide +kernel
theorem dd_R_readTurn_55 : decode mb_R_readTurn 55 = .ok (.getfield 33, 3) := by decide +kernel
theorem dd_R_readTurn_58 : decode mb_R_readTurn 58 = .ok (.ladd, 1) := by decide +kernel
theorem dd_R_readTurn_59 : decode mb_R_readTurn 59 = .ok (.putfield 30, 3) := by decide +kernel
theorem dd_R_readTurn_62 : decode mb_R_readTurn 62 = .ok (.aload_n 0, 1) := by decide +kernel
theorem dd_R_readTurn_63 : decode mb_R_readTurn 63 = .ok (.getfield 33, 3) := by decide +kernel
theorem dd_R_readTurn_66 : decode mb_R_readTurn 66 = .ok (.lconst 1, 1) := by decide +kernel
theorem dd_R_readTurn_67 : decode mb_R_readTurn 67 = .ok (.lcmp, 1) := by decide +kernel
theorem dd_R_readTurn_68 : decode mb_R_readTurn 68 = .ok (.ifCond .lt 18, 3) := by decide +kernel
theorem dd_R_readTurn_71 : decode mb_R_readTurn 71 = .ok (.aload_n 0, 1) := by decide +kernel
theorem dd_R_readTurn_72 : decode mb_R_readTurn 72 = .ok (.getfield 30, 3) := by decide +kernel
theorem dd_R_readTurn_75 : decode mb_R_readTurn 75 = .ok (.ldc2_w 84, 3) := by decide +kernel
theorem dd_R_readTurn_78 : decode mb_R_readTurn 78 = .ok (.lcmp, 1) := by decide +kernel
theorem dd_R_readTurn_79 : decode mb_R_readTurn 79 = .ok (.ifCond .gt 7, 3) := by decide +kernel
theorem dd_R_readTurn_82 : decode mb_R_readTurn 82 = .ok (.iconst 1, 1) := by decide +kernel
theorem dd_R_readTurn_83 : decode mb_R_readTurn 83 = .ok (.goto 4, 3) := by decide +kernel
theorem dd_R_readTurn_86 : decode mb_R_readTurn 86 = .ok (.iconst 0, 1) := by decide +kernel
theorem dd_R_readTurn_87 : decode mb_R_readTurn 87 = .ok (.ireturn, 1) := by decide +kernel
theorem dd_R_readKind_0 : decode mb_R_readKind 0 = .ok (.iconst 0, 1) := by decide +kernel
theorem dd_R_readKind_1 : decode mb_R_readKind 1 = .ok (.istore_n 1, 1) := by decide +kernel
theorem dd_R_readKind_2 : decode mb_R_readKind 2 = .ok (.iload_n 1, 1) := by decide +kernel
theorem dd_R_readKind_3 : decode mb_R_readKind 3 = .ok (.iconst 4, 1) := by decide +kernel
theorem dd_R_readKind_4 : decode mb_R_readKind 4 = .ok (.if_icmp .ge 30, 3) := by decide +kernel
theorem dd_R_readKind_7 : decode mb_R_readKind 7 = .ok (.aload_n 0, 1) := by decide +kernel
theorem dd_R_readKind_8 : decode mb_R_readKind 8 = .ok (.iconst 1, 1) := by decide +kernel
theorem dd_R_readKind_9 : decode mb_R_readKind 9 = .ok (.invokevirtual 62, 3) := by decide +kernel
theorem dd_R_readKind_12 : decode mb_R_readKind 12 = .ok (.ifCond .ne 5, 3) := by decide +kernel
theorem dd_R_readKind_15 : decode mb_R_readKind 15 = .ok (.iconst (-1), 1) := by decide +kernel
theorem dd_R_readKind_16 : decode mb_R_readKind 16 = .ok (.ireturn, 1) := by decide +kernel
theorem dd_R_readKind_17 : decode mb_R_readKind 17 = .ok (.aload_n 0, 1) := by decide +kernel
theorem dd_R_readKind_18 : decode mb_R_readKind 18 = .ok (.getfield 26, 3) := by decide +kernel
theorem dd_R_readKind_21 : decode mb_R_readKind 21 = .ok (.lconst 0, 1) := by decide +kernel
theorem dd_R_readKind_22 : decode mb_R_readKind 22 = .ok (.lcmp, 1) := by decide +kernel
theorem dd_R_readKind_23 : decode mb_R_readKind 23 = .ok (.ifCond .ne 5, 3) := by decide +kernel
theorem dd_R_readKind_26 : decode mb_R_readKind 26 = .ok (.iload_n 1, 1) := by decide +kernel
theorem dd_R_readKind_27 : decode mb_R_readKind 27 = .ok (.ireturn, 1) := by decide +kernel
theorem dd_R_readKind_28 : decode mb_R_readKind 28 = .ok (.iinc 1 1, 3) := by decide +kernel
theorem dd_R_readKind_31 : decode mb_R_readKind 31 = .ok (.goto (-29), 3) := by decide +kernel
theorem dd_R_readKind_34 : decode mb_R_readKind 34 = .ok (.iconst 4, 1) := by decide +kernel
theorem dd_R_readKind_35 : decode mb_R_readKind 35 = .ok (.ireturn, 1) := by decide +kernel
theorem dd_R_withSign_0 : decode mb_R_withSign 0 = .ok (.bipush 64, 2) := by decide +kernel
theorem dd_R_withSign_2 : decode mb_R_withSign 2 = .ok (.iload_n 2, 1) := by decide +kernel
theorem dd_R_withSign_3 : decode mb_R_withSign 3 = .ok (.isub, 1) := by decide +kernel
theorem dd_R_withSign_4 : decode mb_R_withSign 4 = .ok (.istore_n 3, 1) := by decide +kernel
theorem dd_R_withSign_5 : decode mb_R_withSign 5 = .ok (.lload_n 0, 1) := by decide +kernel
theorem dd_R_withSign_6 : decode mb_R_withSign 6 = .ok (.iload_n 3, 1) := by decide +kernel
theorem dd_R_withSign_7 : decode mb_R_withSign 7 = .ok (.lshl, 1) := by decide +kernel
theorem dd_R_withSign_8 : decode mb_R_withSign 8 = .ok (.iload_n 3, 1) := by decide +kernel
theorem dd_R_withSign_9 : decode mb_R_withSign 9 = .ok (.lshr, 1) := by decide +kernel
theorem dd_R_withSign_10 : decode mb_R_withSign 10 = .ok (.lreturn, 1) := by decide +kernel
theorem dd_R_readDifference_0 : decode mb_R_readDifference 0 = .ok (.aload_n 0, 1) := by decide +kernel
theorem dd_R_readDifference_1 : decode mb_R_readDifference 1 = .ok (.iconst 1, 1) := by decide +kernel
theorem dd_R_readDifference_2 : decode mb_R_readDifference 2 = .ok (.invokevirtual 62, 3) := by decide +kernel
theorem dd_R_readDifference_5 : decode mb_R_readDifference 5 = .ok (.ifCond .ne 5, 3) := by decide +kernel
theorem dd_R_readDifference_8 : decode mb_R_readDifference 8 = .ok (.iconst 0, 1) := by decide +kernel
theorem dd_R_readDifference_9 : decode mb_R_readDifference 9 = .ok (.ireturn, 1) := by decide +kernel
theorem dd_R_readDifference_10 : decode mb_R_readDifference 10 = .ok (.aload_n 0, 1) := by decide +kernel
theorem dd_R_readDifference_11 : decode mb_R_readDifference 11 = .ok (.getfield 26, 3) := by decide +kernel
theorem dd_R_readDifference_14 : decode mb_R_readDifference 14 = .ok (.lconst 0, 1) := by decide +kernel
theorem dd_R_readDifference_15 : decode mb_R_readDifference 15 = .ok (.lcmp, 1) := by decide +kernel
theorem dd_R_readDifference_16 : decode mb_R_readDifference 16 = .ok (.ifCond .ne 5, 3) := by decide +kernel
theorem dd_R_readDifference_19 : decode mb_R_readDifference 19 = .ok (.iconst 1, 1) := by decide +kernel
theorem dd_R_readDifference_20 : decode mb_R_readDifference 20 = .ok (.ireturn, 1) := by decide +kernel
theorem dd_R_readDifference_21 : decode mb_R_readDifference 21 = .ok (.aload_n 0, 1) := by decide +kernel
theorem dd_R_readDifference_22 : decode mb_R_readDifference 22 = .ok (.iconst 1, 1) := by decide +kernel
theorem dd_R_readDifference_23 : decode mb_R_readDifference 23 = .ok (.invokevirtual 62, 3) := by decide +kernel
theorem dd_R_readDifference_26 : decode mb_R_readDifference 26 = .ok (.ifCond .ne 5, 3) := by decide +kernel
theorem dd_R_readDifference_29 : decode mb_R_readDifference 29 = .ok (.iconst 0, 1) := by decide +kernel
theorem dd_R_readDifference_30 : decode mb_R_readDifference 30 = .ok (.ireturn, 1) := by decide +kernel
theorem dd_R_readDifference_31 : decode mb_R_readDifference 31 = .ok (.aload_n 0, 1) := by decide +kernel
theorem dd_R_readDifference_32 : decode mb_R_readDifference 32 = .ok (.getfield 26, 3) := by decide +kernel
theorem dd_R_readDifference_35 : decode mb_R_readDifference 35 = .ok (.lconst 0, 1) := by decide +kernel
theorem dd_R_readDifference_36 : decode mb_R_readDifference 36 = .ok (.lcmp, 1) := by decide +kernel
theorem dd_R_readDifference_37 : decode mb_R_readDifference 37 = .ok (.ifCond .ne 13, 3) := by decide +kernel
theorem dd_R_readDifference_40 : decode mb_R_readDifference 40 = .ok (.aload_n 0, 1) := by decide +kernel
theorem dd_R_readDifference_41 : decode mb_R_readDifference 41 = .ok (.getfield 18, 3) := by decide +kernel
theorem dd_R_readDifference_44 : decode mb_R_readDifference 44 = .ok (.invokevirtual 86, 3) := by decide +kernel
theorem dd_R_readDifference_47 : decode mb_R_readDifference 47 = .ok (.goto 7, 3) := by decide +kernel
theorem dd_R_readDifference_50 : decode mb_R_readDifference 50 = .ok (.aload_n 0, 1) := by decide +kernel
theorem dd_R_readDifference_51 : decode mb_R_readDifference 51 = .ok (.invokevirtual 89, 3) := by decide +kernel
theorem dd_R_readDifference_54 : decode mb_R_readDifference 54 = .ok (.istore_n 1, 1) := by decide +kernel
theorem dd_R_readDifference_55 : decode mb_R_readDifference 55 = .ok (.iload_n 1, 1) := by decide +kernel
theorem dd_R_readDifference_56 : decode mb_R_readDifference 56 = .ok (.ifCond .eq 17, 3) := by decide +kernel
theorem dd_R_readDifference_59 : decode mb_R_readDifference 59 = .ok (.aload_n 0, 1) := by decide +kernel
theorem dd_R_readDifference_60 : decode mb_R_readDifference 60 = .ok (.aload_n 0, 1) := by decide +kernel
theorem dd_R_readDifference_61 : decode mb_R_readDifference 61 = .ok (.getfield 18, 3) := by decide +kernel
theorem dd_R_readDifference_64 : decode mb_R_readDifference 64 = .ok (.invokevirtual 92, 3) := by decide +kernel
theorem dd_R_readDifference_67 : decode mb_R_readDifference 67 = .ok (.invokevirtual 62, 3) := by decide +kernel
theorem dd_R_readDifference_70 : decode mb_R_readDifference 70 = .ok (.ifCond .ne 5, 3) := by decide +kernel
theorem dd_R_readDifference_73 : decode mb_R_readDifference 73 = .ok (.iconst 0, 1) := by decide +kernel
theorem dd_R_readDifference_74 : decode mb_R_readDifference 74 = .ok (.ireturn, 1) := by decide +kernel
theorem dd_R_readDifference_75 : decode mb_R_readDifference 75 = .ok (.aload_n 0, 1) := by decide +kernel
theorem dd_R_readDifference_76 : decode mb_R_readDifference 76 = .ok (.dup, 1) := by decide +kernel
theorem dd_R_readDifference_77 : decode mb_R_readDifference 77 = .ok (.getfield 36, 3) := by decide +kernel
theorem dd_R_readDifference_80 : decode mb_R_readDifference 80 = .ok (.aload_n 0, 1) := by decide +kernel
theorem dd_R_readDifference_81 : decode mb_R_readDifference 81 = .ok (.getfield 26, 3) := by decide +kernel
theorem dd_R_readDifference_84 : decode mb_R_readDifference 84 = .ok (.aload_n 0, 1) := by decide +kernel
theorem dd_R_readDifference_85 : decode mb_R_readDifference 85 = .ok (.getfield 18, 3) := by decide +kernel
theorem dd_R_readDifference_88 : decode mb_R_readDifference 88 = .ok (.invokevirtual 95, 3) := by decide +kernel
theorem dd_R_readDifference_91 : decode mb_R_readDifference 91 = .ok (.lshl, 1) := by decide +kernel
theorem dd_R_readDifference_92 : decode mb_R_readDifference 92 = .ok (.lxor, 1) := by decide +kernel
theorem dd_R_readDifference_93 : decode mb_R_readDifference 93 = .ok (.putfield 36, 3) := by decide +kernel
theorem dd_R_readDifference_96 : decode mb_R_readDifference 96 = .ok (.iconst 1, 1) := by decide +kernel
theorem dd_R_readDifference_97 : decode mb_R_readDifference 97 = .ok (.ireturn, 1) := by decide +kernel
theorem dd_R_readFrame_0 : decode mb_R_readFrame 0 = .ok (.aload_n 0, 1) := by decide +kernel
theorem dd_R_readFrame_1 : decode mb_R_readFrame 1 = .ok (.iconst 5, 1) := by decide +kernel
theorem dd_R_readFrame_2 : decode mb_R_readFrame 2 = .ok (.invokevirtual 62, 3) := by decide +kernel
theorem dd_R_readFrame_5 : decode mb_R_readFrame 5 = .ok (.ifCond .ne 5, 3) := by decide +kernel
theorem dd_R_readFrame_8 : decode mb_R_readFrame 8 = .ok (.iconst 0, 1) := by decide +kernel
theorem dd_R_readFrame_9 : decode mb_R_readFrame 9 = .ok (.ireturn, 1) := by decide +kernel
theorem dd_R_readFrame_10 : decode mb_R_readFrame 10 = .ok (.aload_n 0, 1) := by decide +kernel
theorem dd_R_readFrame_11 : decode mb_R_readFrame 11 = .ok (.getfield 26, 3) := by decide +kernel
theorem dd_R_readFrame_14 : decode mb_R_readFrame 14 = .ok (.l2i, 1) := by decide +kernel
theorem dd_R_readFrame_15 : decode mb_R_readFrame 15 = .ok (.istore_n 1, 1) := by decide +kernel
theorem dd_R_readFrame_16 : decode mb_R_readFrame 16 = .ok (.aload_n 0, 1) := by decide +kernel
theorem dd_R_readFrame_17 : decode mb_R_readFrame 17 = .ok (.bipush 6, 2) := by decide +kernel
theorem dd_R_readFrame_19 : decode mb_R_readFrame 19 = .ok (.invokevirtual 62, 3) := by decide +kernel
theorem dd_R_readFrame_22 : decode mb_R_readFrame 22 = .ok (.ifCond .ne 5, 3) := by decide +kernel
theorem dd_R_readFrame_25 : decode mb_R_readFrame 25 = .ok (.iconst 0, 1) := by decide +kernel
theorem dd_R_readFrame_26 : decode mb_R_readFrame 26 = .ok (.ireturn, 1) := by decide +kernel
theorem dd_R_readFrame_27 : decode mb_R_readFrame 27 = .ok (.aload_n 0, 1) := by decide +kernel
theorem dd_R_readFrame_28 : decode mb_R_readFrame 28 = .ok (.getfield 26, 3) := by decide +kernel
theorem dd_R_readFrame_31 : decode mb_R_readFrame 31 = .ok (.l2i, 1) := by decide +kernel
theorem dd_R_readFrame_32 : decode mb_R_readFrame 32 = .ok (.iconst 1, 1) := by decide +kernel
theorem dd_R_readFrame_33 : decode mb_R_readFrame 33 = .ok (.iadd, 1) := by decide +kernel
theorem dd_R_readFrame_34 : decode mb_R_readFrame 34 = .ok (.istore_n 2, 1) := by decide +kernel
theorem dd_R_readFrame_35 : decode mb_R_readFrame 35 = .ok (.iload_n 1, 1) := by decide +kernel
theorem dd_R_readFrame_36 : decode mb_R_readFrame 36 = .ok (.iload_n 2, 1) := by decide +kernel
theorem dd_R_readFrame_37 : decode mb_R_readFrame 37 = .ok (.iadd, 1) := by decide +kernel
theorem dd_R_readFrame_38 : decode mb_R_readFrame 38 = .ok (.bipush 64, 2) := by decide +kernel
theorem dd_R_readFrame_40 : decode mb_R_readFrame 40 = .ok (.if_icmp .le 5, 3) := by decide +kernel
theorem dd_R_readFrame_43 : decode mb_R_readFrame 43 = .ok (.iconst 0, 1) := by decide +kernel
theorem dd_R_readFrame_44 : decode mb_R_readFrame 44 = .ok (.ireturn, 1) := by decide +kernel
theorem dd_R_readFrame_45 : decode mb_R_readFrame 45 = .ok (.aload_n 0, 1) := by decide +kernel
theorem dd_R_readFrame_46 : decode mb_R_readFrame 46 = .ok (.getfield 18, 3) := by decide +kernel
theorem dd_R_readFrame_49 : decode mb_R_readFrame 49 = .ok (.iload_n 1, 1) := by decide +kernel
theorem dd_R_readFrame_50 : decode mb_R_readFrame 50 = .ok (.iload_n 2, 1) := by decide +kernel
theorem dd_R_readFrame_51 : decode mb_R_readFrame 51 = .ok (.invokevirtual 98, 3) := by decide +kernel
theorem dd_R_readFrame_54 : decode mb_R_readFrame 54 = .ok (.iconst 1, 1) := by decide +kernel
theorem dd_R_readFrame_55 : decode mb_R_readFrame 55 = .ok (.ireturn, 1) := by decide +kernel
theorem dd_R_position_0 : decode mb_R_position 0 = .ok (.aload_n 0, 1) := by decide +kernel
theorem dd_R_position_1 : decode mb_R_position 1 = .ok (.getfield 22, 3) := by decide +kernel
theorem dd_R_position_4 : decode mb_R_position 4 = .ok (.ireturn, 1) := by decide +kernel
