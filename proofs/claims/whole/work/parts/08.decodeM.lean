theorem dd_M_init_0 : decode mb_M_init 0 = .ok (.aload_n 0, 1) := by decide +kernel
theorem dd_M_init_1 : decode mb_M_init 1 = .ok (.invokespecial 1, 3) := by decide +kernel
theorem dd_M_init_4 : decode mb_M_init 4 = .ok (.aload_n 0, 1) := by decide +kernel
theorem dd_M_init_5 : decode mb_M_init 5 = .ok (.sipush 3000, 3) := by decide +kernel
theorem dd_M_init_8 : decode mb_M_init 8 = .ok (.newarray .long, 2) := by decide +kernel
theorem dd_M_init_10 : decode mb_M_init 10 = .ok (.putfield 7, 3) := by decide +kernel
theorem dd_M_init_13 : decode mb_M_init 13 = .ok (.aload_n 0, 1) := by decide +kernel
theorem dd_M_init_14 : decode mb_M_init 14 = .ok (.sipush 3000, 3) := by decide +kernel
theorem dd_M_init_17 : decode mb_M_init 17 = .ok (.newarray .long, 2) := by decide +kernel
theorem dd_M_init_19 : decode mb_M_init 19 = .ok (.putfield 13, 3) := by decide +kernel
theorem dd_M_init_22 : decode mb_M_init 22 = .ok (.aload_n 0, 1) := by decide +kernel
theorem dd_M_init_23 : decode mb_M_init 23 = .ok (.ldc 16, 2) := by decide +kernel
theorem dd_M_init_25 : decode mb_M_init 25 = .ok (.newarray .byte, 2) := by decide +kernel
theorem dd_M_init_27 : decode mb_M_init 27 = .ok (.putfield 17, 3) := by decide +kernel
theorem dd_M_init_30 : decode mb_M_init 30 = .ok (.aload_n 0, 1) := by decide +kernel
theorem dd_M_init_31 : decode mb_M_init 31 = .ok (.sipush 3000, 3) := by decide +kernel
theorem dd_M_init_34 : decode mb_M_init 34 = .ok (.newarray .long, 2) := by decide +kernel
theorem dd_M_init_36 : decode mb_M_init 36 = .ok (.putfield 21, 3) := by decide +kernel
theorem dd_M_init_39 : decode mb_M_init 39 = .ok (.aload_n 0, 1) := by decide +kernel
theorem dd_M_init_40 : decode mb_M_init 40 = .ok (.sipush 3000, 3) := by decide +kernel
theorem dd_M_init_43 : decode mb_M_init 43 = .ok (.newarray .long, 2) := by decide +kernel
theorem dd_M_init_45 : decode mb_M_init 45 = .ok (.putfield 24, 3) := by decide +kernel
theorem dd_M_init_48 : decode mb_M_init 48 = .ok (.return_, 1) := by decide +kernel
theorem dd_M_thrown_0 : decode mb_M_thrown 0 = .ok (.aload_n 0, 1) := by decide +kernel
theorem dd_M_thrown_1 : decode mb_M_thrown 1 = .ok (.getfield 27, 3) := by decide +kernel
theorem dd_M_thrown_4 : decode mb_M_thrown 4 = .ok (.ireturn, 1) := by decide +kernel
theorem dd_M_add_0 : decode mb_M_add 0 = .ok (.lload_n 1, 1) := by decide +kernel
theorem dd_M_add_1 : decode mb_M_add 1 = .ok (.lconst 0, 1) := by decide +kernel
theorem dd_M_add_2 : decode mb_M_add 2 = .ok (.lcmp, 1) := by decide +kernel
theorem dd_M_add_3 : decode mb_M_add 3 = .ok (.ifCond .lt 38, 3) := by decide +kernel
theorem dd_M_add_6 : decode mb_M_add 6 = .ok (.lload_n 1, 1) := by decide +kernel
theorem dd_M_add_7 : decode mb_M_add 7 = .ok (.ldc2_w 31, 3) := by decide +kernel
theorem dd_M_add_10 : decode mb_M_add 10 = .ok (.lcmp, 1) := by decide +kernel
theorem dd_M_add_11 : decode mb_M_add 11 = .ok (.ifCond .gt 30, 3) := by decide +kernel
theorem dd_M_add_14 : decode mb_M_add 14 = .ok (.aload_n 0, 1) := by decide +kernel
theorem dd_M_add_15 : decode mb_M_add 15 = .ok (.getfield 33, 3) := by decide +kernel
theorem dd_M_add_18 : decode mb_M_add 18 = .ok (.ifCond .eq 19, 3) := by decide +kernel
theorem dd_M_add_21 : decode mb_M_add 21 = .ok (.lload_n 1, 1) := by decide +kernel
theorem dd_M_add_22 : decode mb_M_add 22 = .ok (.aload_n 0, 1) := by decide +kernel
theorem dd_M_add_23 : decode mb_M_add 23 = .ok (.getfield 7, 3) := by decide +kernel
theorem dd_M_add_26 : decode mb_M_add 26 = .ok (.aload_n 0, 1) := by decide +kernel
theorem dd_M_add_27 : decode mb_M_add 27 = .ok (.getfield 33, 3) := by decide +kernel
theorem dd_M_add_30 : decode mb_M_add 30 = .ok (.iconst 1, 1) := by decide +kernel
theorem dd_M_add_31 : decode mb_M_add 31 = .ok (.isub, 1) := by decide +kernel
theorem dd_M_add_32 : decode mb_M_add 32 = .ok (.laload, 1) := by decide +kernel
theorem dd_M_add_33 : decode mb_M_add 33 = .ok (.lcmp, 1) := by decide +kernel
theorem dd_M_add_34 : decode mb_M_add 34 = .ok (.ifCond .le 7, 3) := by decide +kernel
theorem dd_M_add_37 : decode mb_M_add 37 = .ok (.iconst 1, 1) := by decide +kernel
theorem dd_M_add_38 : decode mb_M_add 38 = .ok (.goto 4, 3) := by decide +kernel
theorem dd_M_add_41 : decode mb_M_add 41 = .ok (.iconst 0, 1) := by decide +kernel
theorem dd_M_add_42 : decode mb_M_add 42 = .ok (.istore 5, 2) := by decide +kernel
theorem dd_M_add_44 : decode mb_M_add 44 = .ok (.aload_n 0, 1) := by decide +kernel
theorem dd_M_add_45 : decode mb_M_add 45 = .ok (.iload 5, 2) := by decide +kernel
theorem dd_M_add_47 : decode mb_M_add 47 = .ok (.ifCond .ne 7, 3) := by decide +kernel
theorem dd_M_add_50 : decode mb_M_add 50 = .ok (.iconst 1, 1) := by decide +kernel
theorem dd_M_add_51 : decode mb_M_add 51 = .ok (.goto 18, 3) := by decide +kernel
theorem dd_M_add_54 : decode mb_M_add 54 = .ok (.aload_n 0, 1) := by decide +kernel
theorem dd_M_add_55 : decode mb_M_add 55 = .ok (.getfield 33, 3) := by decide +kernel
theorem dd_M_add_58 : decode mb_M_add 58 = .ok (.sipush 3000, 3) := by decide +kernel
theorem dd_M_add_61 : decode mb_M_add 61 = .ok (.if_icmp .ne 7, 3) := by decide +kernel
theorem dd_M_add_64 : decode mb_M_add 64 = .ok (.iconst 2, 1) := by decide +kernel
theorem dd_M_add_65 : decode mb_M_add 65 = .ok (.goto 4, 3) := by decide +kernel
theorem dd_M_add_68 : decode mb_M_add 68 = .ok (.iconst 0, 1) := by decide +kernel
theorem dd_M_add_69 : decode mb_M_add 69 = .ok (.putfield 27, 3) := by decide +kernel
theorem dd_M_add_72 : decode mb_M_add 72 = .ok (.aload_n 0, 1) := by decide +kernel
theorem dd_M_add_73 : decode mb_M_add 73 = .ok (.getfield 27, 3) := by decide +kernel
theorem dd_M_add_76 : decode mb_M_add 76 = .ok (.ifCond .le 5, 3) := by decide +kernel
theorem dd_M_add_79 : decode mb_M_add 79 = .ok (.iconst 0, 1) := by decide +kernel
theorem dd_M_add_80 : decode mb_M_add 80 = .ok (.ireturn, 1) := by decide +kernel
theorem dd_M_add_81 : decode mb_M_add 81 = .ok (.aload_n 0, 1) := by decide +kernel
theorem dd_M_add_82 : decode mb_M_add 82 = .ok (.getfield 7, 3) := by decide +kernel
theorem dd_M_add_85 : decode mb_M_add 85 = .ok (.aload_n 0, 1) := by decide +kernel
theorem dd_M_add_86 : decode mb_M_add 86 = .ok (.getfield 33, 3) := by decide +kernel
theorem dd_M_add_89 : decode mb_M_add 89 = .ok (.lload_n 1, 1) := by decide +kernel
theorem dd_M_add_90 : decode mb_M_add 90 = .ok (.lastore, 1) := by decide +kernel
theorem dd_M_add_91 : decode mb_M_add 91 = .ok (.aload_n 0, 1) := by decide +kernel
theorem dd_M_add_92 : decode mb_M_add 92 = .ok (.getfield 13, 3) := by decide +kernel
theorem dd_M_add_95 : decode mb_M_add 95 = .ok (.aload_n 0, 1) := by decide +kernel
theorem dd_M_add_96 : decode mb_M_add 96 = .ok (.getfield 33, 3) := by decide +kernel
theorem dd_M_add_99 : decode mb_M_add 99 = .ok (.lload_n 3, 1) := by decide +kernel
theorem dd_M_add_100 : decode mb_M_add 100 = .ok (.lastore, 1) := by decide +kernel
theorem dd_M_add_101 : decode mb_M_add 101 = .ok (.aload_n 0, 1) := by decide +kernel
theorem dd_M_add_102 : decode mb_M_add 102 = .ok (.dup, 1) := by decide +kernel
theorem dd_M_add_103 : decode mb_M_add 103 = .ok (.getfield 33, 3) := by decide +kernel
theorem dd_M_add_106 : decode mb_M_add 106 = .ok (.iconst 1, 1) := by decide +kernel
theorem dd_M_add_107 : decode mb_M_add 107 = .ok (.iadd, 1) := by decide +kernel
theorem dd_M_add_108 : decode mb_M_add 108 = .ok (.putfield 33, 3) := by decide +kernel
theorem dd_M_add_111 : decode mb_M_add 111 = .ok (.aload_n 0, 1) := by decide +kernel
theorem dd_M_add_112 : decode mb_M_add 112 = .ok (.getfield 33, 3) := by decide +kernel
theorem dd_M_add_115 : decode mb_M_add 115 = .ok (.ireturn, 1) := by decide +kernel
theorem dd_M_keep_0 : decode mb_M_keep 0 = .ok (.aload_n 0, 1) := by decide +kernel
theorem dd_M_keep_1 : decode mb_M_keep 1 = .ok (.iload_n 1, 1) := by decide +kernel
theorem dd_M_keep_2 : decode mb_M_keep 2 = .ok (.ifCond .lt 11, 3) := by decide +kernel
theorem dd_M_keep_5 : decode mb_M_keep 5 = .ok (.iload_n 1, 1) := by decide +kernel
theorem dd_M_keep_6 : decode mb_M_keep 6 = .ok (.aload_n 0, 1) := by decide +kernel
theorem dd_M_keep_7 : decode mb_M_keep 7 = .ok (.getfield 33, 3) := by decide +kernel
theorem dd_M_keep_10 : decode mb_M_keep 10 = .ok (.if_icmp .le 7, 3) := by decide +kernel
theorem dd_M_keep_13 : decode mb_M_keep 13 = .ok (.iconst 1, 1) := by decide +kernel
theorem dd_M_keep_14 : decode mb_M_keep 14 = .ok (.goto 4, 3) := by decide +kernel
theorem dd_M_keep_17 : decode mb_M_keep 17 = .ok (.iconst 0, 1) := by decide +kernel
theorem dd_M_keep_18 : decode mb_M_keep 18 = .ok (.putfield 27, 3) := by decide +kernel
theorem dd_M_keep_21 : decode mb_M_keep 21 = .ok (.aload_n 0, 1) := by decide +kernel
theorem dd_M_keep_22 : decode mb_M_keep 22 = .ok (.getfield 27, 3) := by decide +kernel
theorem dd_M_keep_25 : decode mb_M_keep 25 = .ok (.ifCond .le 5, 3) := by decide +kernel
theorem dd_M_keep_28 : decode mb_M_keep 28 = .ok (.iconst 0, 1) := by decide +kernel
theorem dd_M_keep_29 : decode mb_M_keep 29 = .ok (.ireturn, 1) := by decide +kernel
theorem dd_M_keep_30 : decode mb_M_keep 30 = .ok (.aload_n 0, 1) := by decide +kernel
theorem dd_M_keep_31 : decode mb_M_keep 31 = .ok (.getfield 33, 3) := by decide +kernel
theorem dd_M_keep_34 : decode mb_M_keep 34 = .ok (.iload_n 1, 1) := by decide +kernel
theorem dd_M_keep_35 : decode mb_M_keep 35 = .ok (.isub, 1) := by decide +kernel
theorem dd_M_keep_36 : decode mb_M_keep 36 = .ok (.istore_n 2, 1) := by decide +kernel
theorem dd_M_keep_37 : decode mb_M_keep 37 = .ok (.aload_n 0, 1) := by decide +kernel
theorem dd_M_keep_38 : decode mb_M_keep 38 = .ok (.iload_n 1, 1) := by decide +kernel
theorem dd_M_keep_39 : decode mb_M_keep 39 = .ok (.putfield 33, 3) := by decide +kernel
theorem dd_M_keep_42 : decode mb_M_keep 42 = .ok (.iload_n 2, 1) := by decide +kernel
theorem dd_M_keep_43 : decode mb_M_keep 43 = .ok (.ireturn, 1) := by decide +kernel
theorem dd_M_pack_0 : decode mb_M_pack 0 = .ok (.aload_n 0, 1) := by decide +kernel
theorem dd_M_pack_1 : decode mb_M_pack 1 = .ok (.iconst 0, 1) := by decide +kernel
theorem dd_M_pack_2 : decode mb_M_pack 2 = .ok (.putfield 27, 3) := by decide +kernel
theorem dd_M_pack_5 : decode mb_M_pack 5 = .ok (.aload_n 0, 1) := by decide +kernel
theorem dd_M_pack_6 : decode mb_M_pack 6 = .ok (.iconst 0, 1) := by decide +kernel
theorem dd_M_pack_7 : decode mb_M_pack 7 = .ok (.putfield 36, 3) := by decide +kernel
theorem dd_M_pack_10 : decode mb_M_pack 10 = .ok (.aload_n 0, 1) := by decide +kernel
theorem dd_M_pack_11 : decode mb_M_pack 11 = .ok (.iconst 0, 1) := by decide +kernel
theorem dd_M_pack_12 : decode mb_M_pack 12 = .ok (.putfield 63, 3) := by decide +kernel
theorem dd_M_pack_15 : decode mb_M_pack 15 = .ok (.iconst 0, 1) := by decide +kernel
theorem dd_M_pack_16 : decode mb_M_pack 16 = .ok (.istore_n 1, 1) := by decide +kernel
theorem dd_M_pack_17 : decode mb_M_pack 17 = .ok (.iload_n 1, 1) := by decide +kernel
theorem dd_M_pack_18 : decode mb_M_pack 18 = .ok (.aload_n 0, 1) := by decide +kernel
theorem dd_M_pack_19 : decode mb_M_pack 19 = .ok (.getfield 33, 3) := by decide +kernel
theorem dd_M_pack_22 : decode mb_M_pack 22 = .ok (.if_icmp .ge 107, 3) := by decide +kernel
theorem dd_M_pack_25 : decode mb_M_pack 25 = .ok (.iload_n 1, 1) := by decide +kernel
theorem dd_M_pack_26 : decode mb_M_pack 26 = .ok (.ifCond .ne 30, 3) := by decide +kernel
theorem dd_M_pack_29 : decode mb_M_pack 29 = .ok (.aload_n 0, 1) := by decide +kernel
theorem dd_M_pack_30 : decode mb_M_pack 30 = .ok (.aload_n 0, 1) := by decide +kernel
theorem dd_M_pack_31 : decode mb_M_pack 31 = .ok (.getfield 7, 3) := by decide +kernel
theorem dd_M_pack_34 : decode mb_M_pack 34 = .ok (.iconst 0, 1) := by decide +kernel
theorem dd_M_pack_35 : decode mb_M_pack 35 = .ok (.laload, 1) := by decide +kernel
theorem dd_M_pack_36 : decode mb_M_pack 36 = .ok (.bipush 40, 2) := by decide +kernel
theorem dd_M_pack_38 : decode mb_M_pack 38 = .ok (.invokevirtual 39, 3) := by decide +kernel
theorem dd_M_pack_41 : decode mb_M_pack 41 = .ok (.aload_n 0, 1) := by decide +kernel
theorem dd_M_pack_42 : decode mb_M_pack 42 = .ok (.aload_n 0, 1) := by decide +kernel
theorem dd_M_pack_43 : decode mb_M_pack 43 = .ok (.getfield 13, 3) := by decide +kernel
theorem dd_M_pack_46 : decode mb_M_pack 46 = .ok (.iconst 0, 1) := by decide +kernel
theorem dd_M_pack_47 : decode mb_M_pack 47 = .ok (.laload, 1) := by decide +kernel
theorem dd_M_pack_48 : decode mb_M_pack 48 = .ok (.bipush 64, 2) := by decide +kernel
theorem dd_M_pack_50 : decode mb_M_pack 50 = .ok (.invokevirtual 39, 3) := by decide +kernel
theorem dd_M_pack_53 : decode mb_M_pack 53 = .ok (.goto 70, 3) := by decide +kernel
theorem dd_M_pack_56 : decode mb_M_pack 56 = .ok (.aload_n 0, 1) := by decide +kernel
theorem dd_M_pack_57 : decode mb_M_pack 57 = .ok (.getfield 7, 3) := by decide +kernel
theorem dd_M_pack_60 : decode mb_M_pack 60 = .ok (.iload_n 1, 1) := by decide +kernel
theorem dd_M_pack_61 : decode mb_M_pack 61 = .ok (.laload, 1) := by decide +kernel
theorem dd_M_pack_62 : decode mb_M_pack 62 = .ok (.aload_n 0, 1) := by decide +kernel
theorem dd_M_pack_63 : decode mb_M_pack 63 = .ok (.getfield 7, 3) := by decide +kernel
theorem dd_M_pack_66 : decode mb_M_pack 66 = .ok (.iload_n 1, 1) := by decide +kernel
theorem dd_M_pack_67 : decode mb_M_pack 67 = .ok (.iconst 1, 1) := by decide +kernel
theorem dd_M_pack_68 : decode mb_M_pack 68 = .ok (.isub, 1) := by decide +kernel
theorem dd_M_pack_69 : decode mb_M_pack 69 = .ok (.laload, 1) := by decide +kernel
theorem dd_M_pack_70 : decode mb_M_pack 70 = .ok (.lsub, 1) := by decide +kernel
theorem dd_M_pack_71 : decode mb_M_pack 71 = .ok (.lstore_n 2, 1) := by decide +kernel
theorem dd_M_pack_72 : decode mb_M_pack 72 = .ok (.aload_n 0, 1) := by decide +kernel
theorem dd_M_pack_73 : decode mb_M_pack 73 = .ok (.iload_n 1, 1) := by decide +kernel
theorem dd_M_pack_74 : decode mb_M_pack 74 = .ok (.iconst 1, 1) := by decide +kernel
theorem dd_M_pack_75 : decode mb_M_pack 75 = .ok (.if_icmp .ne 7, 3) := by decide +kernel
theorem dd_M_pack_78 : decode mb_M_pack 78 = .ok (.lload_n 2, 1) := by decide +kernel
theorem dd_M_pack_79 : decode mb_M_pack 79 = .ok (.goto 22, 3) := by decide +kernel
theorem dd_M_pack_82 : decode mb_M_pack 82 = .ok (.lload_n 2, 1) := by decide +kernel
theorem dd_M_pack_83 : decode mb_M_pack 83 = .ok (.aload_n 0, 1) := by decide +kernel
theorem dd_M_pack_84 : decode mb_M_pack 84 = .ok (.getfield 7, 3) := by decide +kernel
theorem dd_M_pack_87 : decode mb_M_pack 87 = .ok (.iload_n 1, 1) := by decide +kernel
theorem dd_M_pack_88 : decode mb_M_pack 88 = .ok (.iconst 1, 1) := by decide +kernel
theorem dd_M_pack_89 : decode mb_M_pack 89 = .ok (.isub, 1) := by decide +kernel
theorem dd_M_pack_90 : decode mb_M_pack 90 = .ok (.laload, 1) := by decide +kernel
theorem dd_M_pack_91 : decode mb_M_pack 91 = .ok (.aload_n 0, 1) := by decide +kernel
theorem dd_M_pack_92 : decode mb_M_pack 92 = .ok (.getfield 7, 3) := by decide +kernel
theorem dd_M_pack_95 : decode mb_M_pack 95 = .ok (.iload_n 1, 1) := by decide +kernel
theorem dd_M_pack_96 : decode mb_M_pack 96 = .ok (.iconst 2, 1) := by decide +kernel
theorem dd_M_pack_97 : decode mb_M_pack 97 = .ok (.isub, 1) := by decide +kernel
theorem dd_M_pack_98 : decode mb_M_pack 98 = .ok (.laload, 1) := by decide +kernel
theorem dd_M_pack_99 : decode mb_M_pack 99 = .ok (.lsub, 1) := by decide +kernel
theorem dd_M_pack_100 : decode mb_M_pack 100 = .ok (.lsub, 1) := by decide +kernel
theorem dd_M_pack_101 : decode mb_M_pack 101 = .ok (.invokevirtual 71, 3) := by decide +kernel
theorem dd_M_pack_104 : decode mb_M_pack 104 = .ok (.aload_n 0, 1) := by decide +kernel
theorem dd_M_pack_105 : decode mb_M_pack 105 = .ok (.aload_n 0, 1) := by decide +kernel
theorem dd_M_pack_106 : decode mb_M_pack 106 = .ok (.getfield 13, 3) := by decide +kernel
theorem dd_M_pack_109 : decode mb_M_pack 109 = .ok (.iload_n 1, 1) := by decide +kernel
theorem dd_M_pack_110 : decode mb_M_pack 110 = .ok (.laload, 1) := by decide +kernel
theorem dd_M_pack_111 : decode mb_M_pack 111 = .ok (.aload_n 0, 1) := by decide +kernel
theorem dd_M_pack_112 : decode mb_M_pack 112 = .ok (.getfield 13, 3) := by decide +kernel
theorem dd_M_pack_115 : decode mb_M_pack 115 = .ok (.iload_n 1, 1) := by decide +kernel
theorem dd_M_pack_116 : decode mb_M_pack 116 = .ok (.iconst 1, 1) := by decide +kernel
theorem dd_M_pack_117 : decode mb_M_pack 117 = .ok (.isub, 1) := by decide +kernel
theorem dd_M_pack_118 : decode mb_M_pack 118 = .ok (.laload, 1) := by decide +kernel
theorem dd_M_pack_119 : decode mb_M_pack 119 = .ok (.lxor, 1) := by decide +kernel
theorem dd_M_pack_120 : decode mb_M_pack 120 = .ok (.invokevirtual 75, 3) := by decide +kernel
theorem dd_M_pack_123 : decode mb_M_pack 123 = .ok (.iinc 1 1, 3) := by decide +kernel
theorem dd_M_pack_126 : decode mb_M_pack 126 = .ok (.goto (-109), 3) := by decide +kernel
theorem dd_M_pack_129 : decode mb_M_pack 129 = .ok (.aload_n 0, 1) := by decide +kernel
theorem dd_M_pack_130 : decode mb_M_pack 130 = .ok (.getfield 36, 3) := by decide +kernel
theorem dd_M_pack_133 : decode mb_M_pack 133 = .ok (.ireturn, 1) := by decide +kernel
theorem dd_M_write_0 : decode mb_M_write 0 = .ok (.iload_n 3, 1) := by decide +kernel
theorem dd_M_write_1 : decode mb_M_write 1 = .ok (.iconst 1, 1) := by decide +kernel
theorem dd_M_write_2 : decode mb_M_write 2 = .ok (.isub, 1) := by decide +kernel
theorem dd_M_write_3 : decode mb_M_write 3 = .ok (.istore 4, 2) := by decide +kernel
theorem dd_M_write_5 : decode mb_M_write 5 = .ok (.iload 4, 2) := by decide +kernel
theorem dd_M_write_7 : decode mb_M_write 7 = .ok (.ifCond .lt 36, 3) := by decide +kernel
theorem dd_M_write_10 : decode mb_M_write 10 = .ok (.aload_n 0, 1) := by decide +kernel
theorem dd_M_write_11 : decode mb_M_write 11 = .ok (.getfield 17, 3) := by decide +kernel
theorem dd_M_write_14 : decode mb_M_write 14 = .ok (.aload_n 0, 1) := by decide +kernel
theorem dd_M_write_15 : decode mb_M_write 15 = .ok (.getfield 36, 3) := by decide +kernel
theorem dd_M_write_18 : decode mb_M_write 18 = .ok (.lload_n 1, 1) := by decide +kernel
theorem dd_M_write_19 : decode mb_M_write 19 = .ok (.iload 4, 2) := by decide +kernel
theorem dd_M_write_21 : decode mb_M_write 21 = .ok (.lushr, 1) := by decide +kernel
theorem dd_M_write_22 : decode mb_M_write 22 = .ok (.lconst 1, 1) := by decide +kernel
theorem dd_M_write_23 : decode mb_M_write 23 = .ok (.land, 1) := by decide +kernel
theorem dd_M_write_24 : decode mb_M_write 24 = .ok (.l2i, 1) := by decide +kernel
theorem dd_M_write_25 : decode mb_M_write 25 = .ok (.i2b, 1) := by decide +kernel
theorem dd_M_write_26 : decode mb_M_write 26 = .ok (.bastore, 1) := by decide +kernel
theorem dd_M_write_27 : decode mb_M_write 27 = .ok (.aload_n 0, 1) := by decide +kernel
theorem dd_M_write_28 : decode mb_M_write 28 = .ok (.dup, 1) := by decide +kernel
theorem dd_M_write_29 : decode mb_M_write 29 = .ok (.getfield 36, 3) := by decide +kernel
theorem dd_M_write_32 : decode mb_M_write 32 = .ok (.iconst 1, 1) := by decide +kernel
theorem dd_M_write_33 : decode mb_M_write 33 = .ok (.iadd, 1) := by decide +kernel
theorem dd_M_write_34 : decode mb_M_write 34 = .ok (.putfield 36, 3) := by decide +kernel
theorem dd_M_write_37 : decode mb_M_write 37 = .ok (.iinc 4 (-1), 3) := by decide +kernel
theorem dd_M_write_40 : decode mb_M_write 40 = .ok (.goto (-35), 3) := by decide +kernel
theorem dd_M_write_43 : decode mb_M_write 43 = .ok (.return_, 1) := by decide +kernel
theorem dd_M_writeTurn_0 : decode mb_M_writeTurn 0 = .ok (.lload_n 1, 1) := by decide +kernel
theorem dd_M_writeTurn_1 : decode mb_M_writeTurn 1 = .ok (.lconst 0, 1) := by decide +kernel
theorem dd_M_writeTurn_2 : decode mb_M_writeTurn 2 = .ok (.lcmp, 1) := by decide +kernel
theorem dd_M_writeTurn_3 : decode mb_M_writeTurn 3 = .ok (.ifCond .ne 12, 3) := by decide +kernel
theorem dd_M_writeTurn_6 : decode mb_M_writeTurn 6 = .ok (.aload_n 0, 1) := by decide +kernel
theorem dd_M_writeTurn_7 : decode mb_M_writeTurn 7 = .ok (.lconst 0, 1) := by decide +kernel
theorem dd_M_writeTurn_8 : decode mb_M_writeTurn 8 = .ok (.iconst 1, 1) := by decide +kernel
theorem dd_M_writeTurn_9 : decode mb_M_writeTurn 9 = .ok (.invokevirtual 39, 3) := by decide +kernel
theorem dd_M_writeTurn_12 : decode mb_M_writeTurn 12 = .ok (.goto 120, 3) := by decide +kernel
theorem dd_M_writeTurn_15 : decode mb_M_writeTurn 15 = .ok (.lload_n 1, 1) := by decide +kernel
theorem dd_M_writeTurn_16 : decode mb_M_writeTurn 16 = .ok (.ldc2_w 43, 3) := by decide +kernel
theorem dd_M_writeTurn_19 : decode mb_M_writeTurn 19 = .ok (.lcmp, 1) := by decide +kernel
theorem dd_M_writeTurn_20 : decode mb_M_writeTurn 20 = .ok (.ifCond .lt 29, 3) := by decide +kernel
theorem dd_M_writeTurn_23 : decode mb_M_writeTurn 23 = .ok (.lload_n 1, 1) := by decide +kernel
theorem dd_M_writeTurn_24 : decode mb_M_writeTurn 24 = .ok (.ldc2_w 45, 3) := by decide +kernel
theorem dd_M_writeTurn_27 : decode mb_M_writeTurn 27 = .ok (.lcmp, 1) := by decide +kernel
theorem dd_M_writeTurn_28 : decode mb_M_writeTurn 28 = .ok (.ifCond .gt 21, 3) := by decide +kernel
theorem dd_M_writeTurn_31 : decode mb_M_writeTurn 31 = .ok (.aload_n 0, 1) := by decide +kernel
theorem dd_M_writeTurn_32 : decode mb_M_writeTurn 32 = .ok (.ldc2_w 47, 3) := by decide +kernel
theorem dd_M_writeTurn_35 : decode mb_M_writeTurn 35 = .ok (.iconst 2, 1) := by decide +kernel
theorem dd_M_writeTurn_36 : decode mb_M_writeTurn 36 = .ok (.invokevirtual 39, 3) := by decide +kernel
theorem dd_M_writeTurn_39 : decode mb_M_writeTurn 39 = .ok (.aload_n 0, 1) := by decide +kernel
theorem dd_M_writeTurn_40 : decode mb_M_writeTurn 40 = .ok (.lload_n 1, 1) := by decide +kernel
theorem dd_M_writeTurn_41 : decode mb_M_writeTurn 41 = .ok (.bipush 7, 2) := by decide +kernel
theorem dd_M_writeTurn_43 : decode mb_M_writeTurn 43 = .ok (.invokevirtual 39, 3) := by decide +kernel
theorem dd_M_writeTurn_46 : decode mb_M_writeTurn 46 = .ok (.goto 86, 3) := by decide +kernel
theorem dd_M_writeTurn_49 : decode mb_M_writeTurn 49 = .ok (.lload_n 1, 1) := by decide +kernel
theorem dd_M_writeTurn_50 : decode mb_M_writeTurn 50 = .ok (.ldc2_w 49, 3) := by decide +kernel
theorem dd_M_writeTurn_53 : decode mb_M_writeTurn 53 = .ok (.lcmp, 1) := by decide +kernel
theorem dd_M_writeTurn_54 : decode mb_M_writeTurn 54 = .ok (.ifCond .lt 29, 3) := by decide +kernel
theorem dd_M_writeTurn_57 : decode mb_M_writeTurn 57 = .ok (.lload_n 1, 1) := by decide +kernel
theorem dd_M_writeTurn_58 : decode mb_M_writeTurn 58 = .ok (.ldc2_w 51, 3) := by decide +kernel
theorem dd_M_writeTurn_61 : decode mb_M_writeTurn 61 = .ok (.lcmp, 1) := by decide +kernel
theorem dd_M_writeTurn_62 : decode mb_M_writeTurn 62 = .ok (.ifCond .gt 21, 3) := by decide +kernel
theorem dd_M_writeTurn_65 : decode mb_M_writeTurn 65 = .ok (.aload_n 0, 1) := by decide +kernel
theorem dd_M_writeTurn_66 : decode mb_M_writeTurn 66 = .ok (.ldc2_w 53, 3) := by decide +kernel
theorem dd_M_writeTurn_69 : decode mb_M_writeTurn 69 = .ok (.iconst 3, 1) := by decide +kernel
theorem dd_M_writeTurn_70 : decode mb_M_writeTurn 70 = .ok (.invokevirtual 39, 3) := by decide +kernel
theorem dd_M_writeTurn_73 : decode mb_M_writeTurn 73 = .ok (.aload_n 0, 1) := by decide +kernel
theorem dd_M_writeTurn_74 : decode mb_M_writeTurn 74 = .ok (.lload_n 1, 1) := by decide +kernel
theorem dd_M_writeTurn_75 : decode mb_M_writeTurn 75 = .ok (.bipush 10, 2) := by decide +kernel
theorem dd_M_writeTurn_77 : decode mb_M_writeTurn 77 = .ok (.invokevirtual 39, 3) := by decide +kernel
theorem dd_M_writeTurn_80 : decode mb_M_writeTurn 80 = .ok (.goto 52, 3) := by decide +kernel
theorem dd_M_writeTurn_83 : decode mb_M_writeTurn 83 = .ok (.lload_n 1, 1) := by decide +kernel
theorem dd_M_writeTurn_84 : decode mb_M_writeTurn 84 = .ok (.ldc2_w 55, 3) := by decide +kernel
theorem dd_M_writeTurn_87 : decode mb_M_writeTurn 87 = .ok (.lcmp, 1) := by decide +kernel
theorem dd_M_writeTurn_88 : decode mb_M_writeTurn 88 = .ok (.ifCond .lt 29, 3) := by decide +kernel
theorem dd_M_writeTurn_91 : decode mb_M_writeTurn 91 = .ok (.lload_n 1, 1) := by decide +kernel
theorem dd_M_writeTurn_92 : decode mb_M_writeTurn 92 = .ok (.ldc2_w 57, 3) := by decide +kernel
theorem dd_M_writeTurn_95 : decode mb_M_writeTurn 95 = .ok (.lcmp, 1) := by decide +kernel
theorem dd_M_writeTurn_96 : decode mb_M_writeTurn 96 = .ok (.ifCond .gt 21, 3) := by decide +kernel
theorem dd_M_writeTurn_99 : decode mb_M_writeTurn 99 = .ok (.aload_n 0, 1) := by decide +kernel
theorem dd_M_writeTurn_100 : decode mb_M_writeTurn 100 = .ok (.ldc2_w 59, 3) := by decide +kernel
theorem dd_M_writeTurn_103 : decode mb_M_writeTurn 103 = .ok (.iconst 4, 1) := by decide +kernel
theorem dd_M_writeTurn_104 : decode mb_M_writeTurn 104 = .ok (.invokevirtual 39, 3) := by decide +kernel
theorem dd_M_writeTurn_107 : decode mb_M_writeTurn 107 = .ok (.aload_n 0, 1) := by decide +kernel
theorem dd_M_writeTurn_108 : decode mb_M_writeTurn 108 = .ok (.lload_n 1, 1) := by decide +kernel
theorem dd_M_writeTurn_109 : decode mb_M_writeTurn 109 = .ok (.bipush 13, 2) := by decide +kernel
theorem dd_M_writeTurn_111 : decode mb_M_writeTurn 111 = .ok (.invokevirtual 39, 3) := by decide +kernel
theorem dd_M_writeTurn_114 : decode mb_M_writeTurn 114 = .ok (.goto 18, 3) := by decide +kernel
theorem dd_M_writeTurn_117 : decode mb_M_writeTurn 117 = .ok (.aload_n 0, 1) := by decide +kernel
theorem dd_M_writeTurn_118 : decode mb_M_writeTurn 118 = .ok (.ldc2_w 61, 3) := by decide +kernel
theorem dd_M_writeTurn_121 : decode mb_M_writeTurn 121 = .ok (.iconst 4, 1) := by decide +kernel
theorem dd_M_writeTurn_122 : decode mb_M_writeTurn 122 = .ok (.invokevirtual 39, 3) := by decide +kernel
theorem dd_M_writeTurn_125 : decode mb_M_writeTurn 125 = .ok (.aload_n 0, 1) := by decide +kernel
theorem dd_M_writeTurn_126 : decode mb_M_writeTurn 126 = .ok (.lload_n 1, 1) := by decide +kernel
theorem dd_M_writeTurn_127 : decode mb_M_writeTurn 127 = .ok (.bipush 41, 2) := by decide +kernel
theorem dd_M_writeTurn_129 : decode mb_M_writeTurn 129 = .ok (.invokevirtual 39, 3) := by decide +kernel
theorem dd_M_writeTurn_132 : decode mb_M_writeTurn 132 = .ok (.return_, 1) := by decide +kernel
theorem dd_M_writeValue_0 : decode mb_M_writeValue 0 = .ok (.lload_n 1, 1) := by decide +kernel
theorem dd_M_writeValue_1 : decode mb_M_writeValue 1 = .ok (.lconst 0, 1) := by decide +kernel
theorem dd_M_writeValue_2 : decode mb_M_writeValue 2 = .ok (.lcmp, 1) := by decide +kernel
theorem dd_M_writeValue_3 : decode mb_M_writeValue 3 = .ok (.ifCond .ne 10, 3) := by decide +kernel
theorem dd_M_writeValue_6 : decode mb_M_writeValue 6 = .ok (.aload_n 0, 1) := by decide +kernel
theorem dd_M_writeValue_7 : decode mb_M_writeValue 7 = .ok (.lconst 0, 1) := by decide +kernel
theorem dd_M_writeValue_8 : decode mb_M_writeValue 8 = .ok (.iconst 1, 1) := by decide +kernel
theorem dd_M_writeValue_9 : decode mb_M_writeValue 9 = .ok (.invokevirtual 39, 3) := by decide +kernel
theorem dd_M_writeValue_12 : decode mb_M_writeValue 12 = .ok (.return_, 1) := by decide +kernel
theorem dd_M_writeValue_13 : decode mb_M_writeValue 13 = .ok (.iconst 0, 1) := by decide +kernel
theorem dd_M_writeValue_14 : decode mb_M_writeValue 14 = .ok (.istore_n 3, 1) := by decide +kernel
theorem dd_M_writeValue_15 : decode mb_M_writeValue 15 = .ok (.iload_n 3, 1) := by decide +kernel
theorem dd_M_writeValue_16 : decode mb_M_writeValue 16 = .ok (.bipush 31, 2) := by decide +kernel
theorem dd_M_writeValue_18 : decode mb_M_writeValue 18 = .ok (.if_icmp .ge 20, 3) := by decide +kernel
theorem dd_M_writeValue_21 : decode mb_M_writeValue 21 = .ok (.lload_n 1, 1) := by decide +kernel
theorem dd_M_writeValue_22 : decode mb_M_writeValue 22 = .ok (.bipush 63, 2) := by decide +kernel
theorem dd_M_writeValue_24 : decode mb_M_writeValue 24 = .ok (.iload_n 3, 1) := by decide +kernel
theorem dd_M_writeValue_25 : decode mb_M_writeValue 25 = .ok (.isub, 1) := by decide +kernel
theorem dd_M_writeValue_26 : decode mb_M_writeValue 26 = .ok (.lushr, 1) := by decide +kernel
theorem dd_M_writeValue_27 : decode mb_M_writeValue 27 = .ok (.lconst 0, 1) := by decide +kernel
theorem dd_M_writeValue_28 : decode mb_M_writeValue 28 = .ok (.lcmp, 1) := by decide +kernel
theorem dd_M_writeValue_29 : decode mb_M_writeValue 29 = .ok (.ifCond .ne 9, 3) := by decide +kernel
theorem dd_M_writeValue_32 : decode mb_M_writeValue 32 = .ok (.iinc 3 1, 3) := by decide +kernel
theorem dd_M_writeValue_35 : decode mb_M_writeValue 35 = .ok (.goto (-20), 3) := by decide +kernel
theorem dd_M_writeValue_38 : decode mb_M_writeValue 38 = .ok (.iconst 0, 1) := by decide +kernel
theorem dd_M_writeValue_39 : decode mb_M_writeValue 39 = .ok (.istore 4, 2) := by decide +kernel
theorem dd_M_writeValue_41 : decode mb_M_writeValue 41 = .ok (.lload_n 1, 1) := by decide +kernel
theorem dd_M_writeValue_42 : decode mb_M_writeValue 42 = .ok (.iload 4, 2) := by decide +kernel
theorem dd_M_writeValue_44 : decode mb_M_writeValue 44 = .ok (.lushr, 1) := by decide +kernel
theorem dd_M_writeValue_45 : decode mb_M_writeValue 45 = .ok (.lconst 1, 1) := by decide +kernel
theorem dd_M_writeValue_46 : decode mb_M_writeValue 46 = .ok (.land, 1) := by decide +kernel
theorem dd_M_writeValue_47 : decode mb_M_writeValue 47 = .ok (.lconst 0, 1) := by decide +kernel
theorem dd_M_writeValue_48 : decode mb_M_writeValue 48 = .ok (.lcmp, 1) := by decide +kernel
theorem dd_M_writeValue_49 : decode mb_M_writeValue 49 = .ok (.ifCond .ne 9, 3) := by decide +kernel
theorem dd_M_writeValue_52 : decode mb_M_writeValue 52 = .ok (.iinc 4 1, 3) := by decide +kernel
theorem dd_M_writeValue_55 : decode mb_M_writeValue 55 = .ok (.goto (-14), 3) := by decide +kernel
theorem dd_M_writeValue_58 : decode mb_M_writeValue 58 = .ok (.aload_n 0, 1) := by decide +kernel
theorem dd_M_writeValue_59 : decode mb_M_writeValue 59 = .ok (.getfield 63, 3) := by decide +kernel
theorem dd_M_writeValue_62 : decode mb_M_writeValue 62 = .ok (.ifCond .le 59, 3) := by decide +kernel
theorem dd_M_writeValue_65 : decode mb_M_writeValue 65 = .ok (.iload_n 3, 1) := by decide +kernel
theorem dd_M_writeValue_66 : decode mb_M_writeValue 66 = .ok (.aload_n 0, 1) := by decide +kernel
theorem dd_M_writeValue_67 : decode mb_M_writeValue 67 = .ok (.getfield 66, 3) := by decide +kernel
theorem dd_M_writeValue_70 : decode mb_M_writeValue 70 = .ok (.if_icmp .lt 51, 3) := by decide +kernel
theorem dd_M_writeValue_73 : decode mb_M_writeValue 73 = .ok (.iload 4, 2) := by decide +kernel
theorem dd_M_writeValue_75 : decode mb_M_writeValue 75 = .ok (.bipush 64, 2) := by decide +kernel
theorem dd_M_writeValue_77 : decode mb_M_writeValue 77 = .ok (.aload_n 0, 1) := by decide +kernel
theorem dd_M_writeValue_78 : decode mb_M_writeValue 78 = .ok (.getfield 66, 3) := by decide +kernel
theorem dd_M_writeValue_81 : decode mb_M_writeValue 81 = .ok (.isub, 1) := by decide +kernel
theorem dd_M_writeValue_82 : decode mb_M_writeValue 82 = .ok (.aload_n 0, 1) := by decide +kernel
theorem dd_M_writeValue_83 : decode mb_M_writeValue 83 = .ok (.getfield 63, 3) := by decide +kernel
theorem dd_M_writeValue_86 : decode mb_M_writeValue 86 = .ok (.isub, 1) := by decide +kernel
theorem dd_M_writeValue_87 : decode mb_M_writeValue 87 = .ok (.if_icmp .lt 34, 3) := by decide +kernel
theorem dd_M_writeValue_90 : decode mb_M_writeValue 90 = .ok (.aload_n 0, 1) := by decide +kernel
theorem dd_M_writeValue_91 : decode mb_M_writeValue 91 = .ok (.ldc2_w 47, 3) := by decide +kernel
theorem dd_M_writeValue_94 : decode mb_M_writeValue 94 = .ok (.iconst 2, 1) := by decide +kernel
theorem dd_M_writeValue_95 : decode mb_M_writeValue 95 = .ok (.invokevirtual 39, 3) := by decide +kernel
theorem dd_M_writeValue_98 : decode mb_M_writeValue 98 = .ok (.aload_n 0, 1) := by decide +kernel
theorem dd_M_writeValue_99 : decode mb_M_writeValue 99 = .ok (.lload_n 1, 1) := by decide +kernel
theorem dd_M_writeValue_100 : decode mb_M_writeValue 100 = .ok (.bipush 64, 2) := by decide +kernel
theorem dd_M_writeValue_102 : decode mb_M_writeValue 102 = .ok (.aload_n 0, 1) := by decide +kernel
theorem dd_M_writeValue_103 : decode mb_M_writeValue 103 = .ok (.getfield 66, 3) := by decide +kernel
theorem dd_M_writeValue_106 : decode mb_M_writeValue 106 = .ok (.isub, 1) := by decide +kernel
theorem dd_M_writeValue_107 : decode mb_M_writeValue 107 = .ok (.aload_n 0, 1) := by decide +kernel
theorem dd_M_writeValue_108 : decode mb_M_writeValue 108 = .ok (.getfield 63, 3) := by decide +kernel
theorem dd_M_writeValue_111 : decode mb_M_writeValue 111 = .ok (.isub, 1) := by decide +kernel
theorem dd_M_writeValue_112 : decode mb_M_writeValue 112 = .ok (.lushr, 1) := by decide +kernel
theorem dd_M_writeValue_113 : decode mb_M_writeValue 113 = .ok (.aload_n 0, 1) := by decide +kernel
theorem dd_M_writeValue_114 : decode mb_M_writeValue 114 = .ok (.getfield 63, 3) := by decide +kernel
theorem dd_M_writeValue_117 : decode mb_M_writeValue 117 = .ok (.invokevirtual 39, 3) := by decide +kernel
theorem dd_M_writeValue_120 : decode mb_M_writeValue 120 = .ok (.return_, 1) := by decide +kernel
theorem dd_M_writeValue_121 : decode mb_M_writeValue 121 = .ok (.bipush 64, 2) := by decide +kernel
theorem dd_M_writeValue_123 : decode mb_M_writeValue 123 = .ok (.iload_n 3, 1) := by decide +kernel
theorem dd_M_writeValue_124 : decode mb_M_writeValue 124 = .ok (.isub, 1) := by decide +kernel
theorem dd_M_writeValue_125 : decode mb_M_writeValue 125 = .ok (.iload 4, 2) := by decide +kernel
theorem dd_M_writeValue_127 : decode mb_M_writeValue 127 = .ok (.isub, 1) := by decide +kernel
theorem dd_M_writeValue_128 : decode mb_M_writeValue 128 = .ok (.istore 5, 2) := by decide +kernel
theorem dd_M_writeValue_130 : decode mb_M_writeValue 130 = .ok (.aload_n 0, 1) := by decide +kernel
theorem dd_M_writeValue_131 : decode mb_M_writeValue 131 = .ok (.ldc2_w 69, 3) := by decide +kernel
theorem dd_M_writeValue_134 : decode mb_M_writeValue 134 = .ok (.iconst 2, 1) := by decide +kernel
theorem dd_M_writeValue_135 : decode mb_M_writeValue 135 = .ok (.invokevirtual 39, 3) := by decide +kernel
theorem dd_M_writeValue_138 : decode mb_M_writeValue 138 = .ok (.aload_n 0, 1) := by decide +kernel
theorem dd_M_writeValue_139 : decode mb_M_writeValue 139 = .ok (.iload_n 3, 1) := by decide +kernel
theorem dd_M_writeValue_140 : decode mb_M_writeValue 140 = .ok (.i2l, 1) := by decide +kernel
theorem dd_M_writeValue_141 : decode mb_M_writeValue 141 = .ok (.iconst 5, 1) := by decide +kernel
theorem dd_M_writeValue_142 : decode mb_M_writeValue 142 = .ok (.invokevirtual 39, 3) := by decide +kernel
theorem dd_M_writeValue_145 : decode mb_M_writeValue 145 = .ok (.aload_n 0, 1) := by decide +kernel
theorem dd_M_writeValue_146 : decode mb_M_writeValue 146 = .ok (.iload 5, 2) := by decide +kernel
theorem dd_M_writeValue_148 : decode mb_M_writeValue 148 = .ok (.i2l, 1) := by decide +kernel
theorem dd_M_writeValue_149 : decode mb_M_writeValue 149 = .ok (.lconst 1, 1) := by decide +kernel
theorem dd_M_writeValue_150 : decode mb_M_writeValue 150 = .ok (.lsub, 1) := by decide +kernel
theorem dd_M_writeValue_151 : decode mb_M_writeValue 151 = .ok (.bipush 6, 2) := by decide +kernel
theorem dd_M_writeValue_153 : decode mb_M_writeValue 153 = .ok (.invokevirtual 39, 3) := by decide +kernel
theorem dd_M_writeValue_156 : decode mb_M_writeValue 156 = .ok (.aload_n 0, 1) := by decide +kernel
theorem dd_M_writeValue_157 : decode mb_M_writeValue 157 = .ok (.lload_n 1, 1) := by decide +kernel
theorem dd_M_writeValue_158 : decode mb_M_writeValue 158 = .ok (.iload 4, 2) := by decide +kernel
theorem dd_M_writeValue_160 : decode mb_M_writeValue 160 = .ok (.lushr, 1) := by decide +kernel
theorem dd_M_writeValue_161 : decode mb_M_writeValue 161 = .ok (.iload 5, 2) := by decide +kernel
theorem dd_M_writeValue_163 : decode mb_M_writeValue 163 = .ok (.invokevirtual 39, 3) := by decide +kernel
theorem dd_M_writeValue_166 : decode mb_M_writeValue 166 = .ok (.aload_n 0, 1) := by decide +kernel
theorem dd_M_writeValue_167 : decode mb_M_writeValue 167 = .ok (.iload_n 3, 1) := by decide +kernel
theorem dd_M_writeValue_168 : decode mb_M_writeValue 168 = .ok (.putfield 66, 3) := by decide +kernel
theorem dd_M_writeValue_171 : decode mb_M_writeValue 171 = .ok (.aload_n 0, 1) := by decide +kernel
theorem dd_M_writeValue_172 : decode mb_M_writeValue 172 = .ok (.iload 5, 2) := by decide +kernel
theorem dd_M_writeValue_174 : decode mb_M_writeValue 174 = .ok (.putfield 63, 3) := by decide +kernel
theorem dd_M_writeValue_177 : decode mb_M_writeValue 177 = .ok (.return_, 1) := by decide +kernel
theorem dd_M_unpack_0 : decode mb_M_unpack 0 = .ok (.aload_n 0, 1) := by decide +kernel
theorem dd_M_unpack_1 : decode mb_M_unpack 1 = .ok (.iload_n 1, 1) := by decide +kernel
theorem dd_M_unpack_2 : decode mb_M_unpack 2 = .ok (.ifCond .lt 10, 3) := by decide +kernel
theorem dd_M_unpack_5 : decode mb_M_unpack 5 = .ok (.iload_n 1, 1) := by decide +kernel
theorem dd_M_unpack_6 : decode mb_M_unpack 6 = .ok (.sipush 3000, 3) := by decide +kernel
theorem dd_M_unpack_9 : decode mb_M_unpack 9 = .ok (.if_icmp .le 7, 3) := by decide +kernel
theorem dd_M_unpack_12 : decode mb_M_unpack 12 = .ok (.iconst 1, 1) := by decide +kernel
theorem dd_M_unpack_13 : decode mb_M_unpack 13 = .ok (.goto 4, 3) := by decide +kernel
theorem dd_M_unpack_16 : decode mb_M_unpack 16 = .ok (.iconst 0, 1) := by decide +kernel
theorem dd_M_unpack_17 : decode mb_M_unpack 17 = .ok (.putfield 27, 3) := by decide +kernel
theorem dd_M_unpack_20 : decode mb_M_unpack 20 = .ok (.aload_n 0, 1) := by decide +kernel
theorem dd_M_unpack_21 : decode mb_M_unpack 21 = .ok (.getfield 27, 3) := by decide +kernel
theorem dd_M_unpack_24 : decode mb_M_unpack 24 = .ok (.ifCond .le 5, 3) := by decide +kernel
theorem dd_M_unpack_27 : decode mb_M_unpack 27 = .ok (.iconst 0, 1) := by decide +kernel
theorem dd_M_unpack_28 : decode mb_M_unpack 28 = .ok (.ireturn, 1) := by decide +kernel
theorem dd_M_unpack_29 : decode mb_M_unpack 29 = .ok (.aload_n 0, 1) := by decide +kernel
theorem dd_M_unpack_30 : decode mb_M_unpack 30 = .ok (.iconst 0, 1) := by decide +kernel
theorem dd_M_unpack_31 : decode mb_M_unpack 31 = .ok (.putfield 82, 3) := by decide +kernel
theorem dd_M_unpack_34 : decode mb_M_unpack 34 = .ok (.aload_n 0, 1) := by decide +kernel
theorem dd_M_unpack_35 : decode mb_M_unpack 35 = .ok (.iconst 0, 1) := by decide +kernel
theorem dd_M_unpack_36 : decode mb_M_unpack 36 = .ok (.putfield 78, 3) := by decide +kernel
theorem dd_M_unpack_39 : decode mb_M_unpack 39 = .ok (.aload_n 0, 1) := by decide +kernel
theorem dd_M_unpack_40 : decode mb_M_unpack 40 = .ok (.iconst 0, 1) := by decide +kernel
theorem dd_M_unpack_41 : decode mb_M_unpack 41 = .ok (.putfield 63, 3) := by decide +kernel
theorem dd_M_unpack_44 : decode mb_M_unpack 44 = .ok (.lconst 0, 1) := by decide +kernel
theorem dd_M_unpack_45 : decode mb_M_unpack 45 = .ok (.lstore_n 2, 1) := by decide +kernel
theorem dd_M_unpack_46 : decode mb_M_unpack 46 = .ok (.iconst 0, 1) := by decide +kernel
theorem dd_M_unpack_47 : decode mb_M_unpack 47 = .ok (.istore 4, 2) := by decide +kernel
theorem dd_M_unpack_49 : decode mb_M_unpack 49 = .ok (.iload 4, 2) := by decide +kernel
theorem dd_M_unpack_51 : decode mb_M_unpack 51 = .ok (.iload_n 1, 1) := by decide +kernel
theorem dd_M_unpack_52 : decode mb_M_unpack 52 = .ok (.if_icmp .ge 141, 3) := by decide +kernel
theorem dd_M_unpack_55 : decode mb_M_unpack 55 = .ok (.aload_n 0, 1) := by decide +kernel
theorem dd_M_unpack_56 : decode mb_M_unpack 56 = .ok (.getfield 78, 3) := by decide +kernel
theorem dd_M_unpack_59 : decode mb_M_unpack 59 = .ok (.ifCond .ne 134, 3) := by decide +kernel
theorem dd_M_unpack_62 : decode mb_M_unpack 62 = .ok (.iload 4, 2) := by decide +kernel
theorem dd_M_unpack_64 : decode mb_M_unpack 64 = .ok (.ifCond .ne 30, 3) := by decide +kernel
theorem dd_M_unpack_67 : decode mb_M_unpack 67 = .ok (.aload_n 0, 1) := by decide +kernel
theorem dd_M_unpack_68 : decode mb_M_unpack 68 = .ok (.getfield 21, 3) := by decide +kernel
theorem dd_M_unpack_71 : decode mb_M_unpack 71 = .ok (.iconst 0, 1) := by decide +kernel
theorem dd_M_unpack_72 : decode mb_M_unpack 72 = .ok (.aload_n 0, 1) := by decide +kernel
theorem dd_M_unpack_73 : decode mb_M_unpack 73 = .ok (.bipush 40, 2) := by decide +kernel
theorem dd_M_unpack_75 : decode mb_M_unpack 75 = .ok (.invokevirtual 85, 3) := by decide +kernel
theorem dd_M_unpack_78 : decode mb_M_unpack 78 = .ok (.lastore, 1) := by decide +kernel
theorem dd_M_unpack_79 : decode mb_M_unpack 79 = .ok (.aload_n 0, 1) := by decide +kernel
theorem dd_M_unpack_80 : decode mb_M_unpack 80 = .ok (.getfield 24, 3) := by decide +kernel
theorem dd_M_unpack_83 : decode mb_M_unpack 83 = .ok (.iconst 0, 1) := by decide +kernel
theorem dd_M_unpack_84 : decode mb_M_unpack 84 = .ok (.aload_n 0, 1) := by decide +kernel
theorem dd_M_unpack_85 : decode mb_M_unpack 85 = .ok (.bipush 64, 2) := by decide +kernel
theorem dd_M_unpack_87 : decode mb_M_unpack 87 = .ok (.invokevirtual 85, 3) := by decide +kernel
theorem dd_M_unpack_90 : decode mb_M_unpack 90 = .ok (.lastore, 1) := by decide +kernel
theorem dd_M_unpack_91 : decode mb_M_unpack 91 = .ok (.goto 96, 3) := by decide +kernel
theorem dd_M_unpack_94 : decode mb_M_unpack 94 = .ok (.lload_n 2, 1) := by decide +kernel
theorem dd_M_unpack_95 : decode mb_M_unpack 95 = .ok (.aload_n 0, 1) := by decide +kernel
theorem dd_M_unpack_96 : decode mb_M_unpack 96 = .ok (.invokevirtual 92, 3) := by decide +kernel
theorem dd_M_unpack_99 : decode mb_M_unpack 99 = .ok (.ladd, 1) := by decide +kernel
theorem dd_M_unpack_100 : decode mb_M_unpack 100 = .ok (.lstore_n 2, 1) := by decide +kernel
theorem dd_M_unpack_101 : decode mb_M_unpack 101 = .ok (.aload_n 0, 1) := by decide +kernel
theorem dd_M_unpack_102 : decode mb_M_unpack 102 = .ok (.getfield 21, 3) := by decide +kernel
theorem dd_M_unpack_105 : decode mb_M_unpack 105 = .ok (.iload 4, 2) := by decide +kernel
theorem dd_M_unpack_107 : decode mb_M_unpack 107 = .ok (.aload_n 0, 1) := by decide +kernel
theorem dd_M_unpack_108 : decode mb_M_unpack 108 = .ok (.getfield 21, 3) := by decide +kernel
theorem dd_M_unpack_111 : decode mb_M_unpack 111 = .ok (.iload 4, 2) := by decide +kernel
theorem dd_M_unpack_113 : decode mb_M_unpack 113 = .ok (.iconst 1, 1) := by decide +kernel
theorem dd_M_unpack_114 : decode mb_M_unpack 114 = .ok (.isub, 1) := by decide +kernel
theorem dd_M_unpack_115 : decode mb_M_unpack 115 = .ok (.laload, 1) := by decide +kernel
theorem dd_M_unpack_116 : decode mb_M_unpack 116 = .ok (.lload_n 2, 1) := by decide +kernel
theorem dd_M_unpack_117 : decode mb_M_unpack 117 = .ok (.ladd, 1) := by decide +kernel
theorem dd_M_unpack_118 : decode mb_M_unpack 118 = .ok (.lastore, 1) := by decide +kernel
theorem dd_M_unpack_119 : decode mb_M_unpack 119 = .ok (.aload_n 0, 1) := by decide +kernel
theorem dd_M_unpack_120 : decode mb_M_unpack 120 = .ok (.aload_n 0, 1) := by decide +kernel
theorem dd_M_unpack_121 : decode mb_M_unpack 121 = .ok (.getfield 78, 3) := by decide +kernel
theorem dd_M_unpack_124 : decode mb_M_unpack 124 = .ok (.ifCond .ne 23, 3) := by decide +kernel
theorem dd_M_unpack_127 : decode mb_M_unpack 127 = .ok (.lload_n 2, 1) := by decide +kernel
theorem dd_M_unpack_128 : decode mb_M_unpack 128 = .ok (.lconst 1, 1) := by decide +kernel
theorem dd_M_unpack_129 : decode mb_M_unpack 129 = .ok (.lcmp, 1) := by decide +kernel
theorem dd_M_unpack_130 : decode mb_M_unpack 130 = .ok (.ifCond .lt 17, 3) := by decide +kernel
theorem dd_M_unpack_133 : decode mb_M_unpack 133 = .ok (.aload_n 0, 1) := by decide +kernel
theorem dd_M_unpack_134 : decode mb_M_unpack 134 = .ok (.getfield 21, 3) := by decide +kernel
theorem dd_M_unpack_137 : decode mb_M_unpack 137 = .ok (.iload 4, 2) := by decide +kernel
theorem dd_M_unpack_139 : decode mb_M_unpack 139 = .ok (.laload, 1) := by decide +kernel
theorem dd_M_unpack_140 : decode mb_M_unpack 140 = .ok (.ldc2_w 31, 3) := by decide +kernel
theorem dd_M_unpack_143 : decode mb_M_unpack 143 = .ok (.lcmp, 1) := by decide +kernel
theorem dd_M_unpack_144 : decode mb_M_unpack 144 = .ok (.ifCond .le 7, 3) := by decide +kernel
theorem dd_M_unpack_147 : decode mb_M_unpack 147 = .ok (.iconst 1, 1) := by decide +kernel
theorem dd_M_unpack_148 : decode mb_M_unpack 148 = .ok (.goto 4, 3) := by decide +kernel
theorem dd_M_unpack_151 : decode mb_M_unpack 151 = .ok (.iconst 0, 1) := by decide +kernel
theorem dd_M_unpack_152 : decode mb_M_unpack 152 = .ok (.putfield 78, 3) := by decide +kernel
theorem dd_M_unpack_155 : decode mb_M_unpack 155 = .ok (.aload_n 0, 1) := by decide +kernel
theorem dd_M_unpack_156 : decode mb_M_unpack 156 = .ok (.getfield 24, 3) := by decide +kernel
theorem dd_M_unpack_159 : decode mb_M_unpack 159 = .ok (.iload 4, 2) := by decide +kernel
theorem dd_M_unpack_161 : decode mb_M_unpack 161 = .ok (.aload_n 0, 1) := by decide +kernel
theorem dd_M_unpack_162 : decode mb_M_unpack 162 = .ok (.getfield 24, 3) := by decide +kernel
theorem dd_M_unpack_165 : decode mb_M_unpack 165 = .ok (.iload 4, 2) := by decide +kernel
theorem dd_M_unpack_167 : decode mb_M_unpack 167 = .ok (.iconst 1, 1) := by decide +kernel
theorem dd_M_unpack_168 : decode mb_M_unpack 168 = .ok (.isub, 1) := by decide +kernel
theorem dd_M_unpack_169 : decode mb_M_unpack 169 = .ok (.laload, 1) := by decide +kernel
theorem dd_M_unpack_170 : decode mb_M_unpack 170 = .ok (.aload_n 0, 1) := by decide +kernel
theorem dd_M_unpack_171 : decode mb_M_unpack 171 = .ok (.getfield 78, 3) := by decide +kernel
theorem dd_M_unpack_174 : decode mb_M_unpack 174 = .ok (.ifCond .eq 7, 3) := by decide +kernel
theorem dd_M_unpack_177 : decode mb_M_unpack 177 = .ok (.lconst 0, 1) := by decide +kernel
theorem dd_M_unpack_178 : decode mb_M_unpack 178 = .ok (.goto 7, 3) := by decide +kernel
theorem dd_M_unpack_181 : decode mb_M_unpack 181 = .ok (.aload_n 0, 1) := by decide +kernel
theorem dd_M_unpack_182 : decode mb_M_unpack 182 = .ok (.invokevirtual 96, 3) := by decide +kernel
theorem dd_M_unpack_185 : decode mb_M_unpack 185 = .ok (.lxor, 1) := by decide +kernel
theorem dd_M_unpack_186 : decode mb_M_unpack 186 = .ok (.lastore, 1) := by decide +kernel
theorem dd_M_unpack_187 : decode mb_M_unpack 187 = .ok (.iinc 4 1, 3) := by decide +kernel
theorem dd_M_unpack_190 : decode mb_M_unpack 190 = .ok (.goto (-141), 3) := by decide +kernel
theorem dd_M_unpack_193 : decode mb_M_unpack 193 = .ok (.aload_n 0, 1) := by decide +kernel
theorem dd_M_unpack_194 : decode mb_M_unpack 194 = .ok (.aload_n 0, 1) := by decide +kernel
theorem dd_M_unpack_195 : decode mb_M_unpack 195 = .ok (.getfield 82, 3) := by decide +kernel
theorem dd_M_unpack_198 : decode mb_M_unpack 198 = .ok (.putfield 99, 3) := by decide +kernel
theorem dd_M_unpack_201 : decode mb_M_unpack 201 = .ok (.aload_n 0, 1) := by decide +kernel
theorem dd_M_unpack_202 : decode mb_M_unpack 202 = .ok (.getfield 78, 3) := by decide +kernel
theorem dd_M_unpack_205 : decode mb_M_unpack 205 = .ok (.ifCond .eq 5, 3) := by decide +kernel
theorem dd_M_unpack_208 : decode mb_M_unpack 208 = .ok (.iconst (-1), 1) := by decide +kernel
theorem dd_M_unpack_209 : decode mb_M_unpack 209 = .ok (.ireturn, 1) := by decide +kernel
theorem dd_M_unpack_210 : decode mb_M_unpack 210 = .ok (.iconst 0, 1) := by decide +kernel
theorem dd_M_unpack_211 : decode mb_M_unpack 211 = .ok (.istore 4, 2) := by decide +kernel
theorem dd_M_unpack_213 : decode mb_M_unpack 213 = .ok (.iload 4, 2) := by decide +kernel
theorem dd_M_unpack_215 : decode mb_M_unpack 215 = .ok (.iload_n 1, 1) := by decide +kernel
theorem dd_M_unpack_216 : decode mb_M_unpack 216 = .ok (.if_icmp .ge 37, 3) := by decide +kernel
theorem dd_M_unpack_219 : decode mb_M_unpack 219 = .ok (.aload_n 0, 1) := by decide +kernel
theorem dd_M_unpack_220 : decode mb_M_unpack 220 = .ok (.getfield 7, 3) := by decide +kernel
theorem dd_M_unpack_223 : decode mb_M_unpack 223 = .ok (.iload 4, 2) := by decide +kernel
theorem dd_M_unpack_225 : decode mb_M_unpack 225 = .ok (.aload_n 0, 1) := by decide +kernel
theorem dd_M_unpack_226 : decode mb_M_unpack 226 = .ok (.getfield 21, 3) := by decide +kernel
theorem dd_M_unpack_229 : decode mb_M_unpack 229 = .ok (.iload 4, 2) := by decide +kernel
theorem dd_M_unpack_231 : decode mb_M_unpack 231 = .ok (.laload, 1) := by decide +kernel
theorem dd_M_unpack_232 : decode mb_M_unpack 232 = .ok (.lastore, 1) := by decide +kernel
theorem dd_M_unpack_233 : decode mb_M_unpack 233 = .ok (.aload_n 0, 1) := by decide +kernel
theorem dd_M_unpack_234 : decode mb_M_unpack 234 = .ok (.getfield 13, 3) := by decide +kernel
theorem dd_M_unpack_237 : decode mb_M_unpack 237 = .ok (.iload 4, 2) := by decide +kernel
theorem dd_M_unpack_239 : decode mb_M_unpack 239 = .ok (.aload_n 0, 1) := by decide +kernel
theorem dd_M_unpack_240 : decode mb_M_unpack 240 = .ok (.getfield 24, 3) := by decide +kernel
theorem dd_M_unpack_243 : decode mb_M_unpack 243 = .ok (.iload 4, 2) := by decide +kernel
theorem dd_M_unpack_245 : decode mb_M_unpack 245 = .ok (.laload, 1) := by decide +kernel
theorem dd_M_unpack_246 : decode mb_M_unpack 246 = .ok (.lastore, 1) := by decide +kernel
theorem dd_M_unpack_247 : decode mb_M_unpack 247 = .ok (.iinc 4 1, 3) := by decide +kernel
theorem dd_M_unpack_250 : decode mb_M_unpack 250 = .ok (.goto (-37), 3) := by decide +kernel
theorem dd_M_unpack_253 : decode mb_M_unpack 253 = .ok (.aload_n 0, 1) := by decide +kernel
theorem dd_M_unpack_254 : decode mb_M_unpack 254 = .ok (.iload_n 1, 1) := by decide +kernel
theorem dd_M_unpack_255 : decode mb_M_unpack 255 = .ok (.putfield 33, 3) := by decide +kernel
theorem dd_M_unpack_258 : decode mb_M_unpack 258 = .ok (.aload_n 0, 1) := by decide +kernel
theorem dd_M_unpack_259 : decode mb_M_unpack 259 = .ok (.getfield 82, 3) := by decide +kernel
theorem dd_M_unpack_262 : decode mb_M_unpack 262 = .ok (.ireturn, 1) := by decide +kernel
theorem dd_M_read_0 : decode mb_M_read 0 = .ok (.aload_n 0, 1) := by decide +kernel
theorem dd_M_read_1 : decode mb_M_read 1 = .ok (.getfield 78, 3) := by decide +kernel
theorem dd_M_read_4 : decode mb_M_read 4 = .ok (.ifCond .ne 16, 3) := by decide +kernel
theorem dd_M_read_7 : decode mb_M_read 7 = .ok (.aload_n 0, 1) := by decide +kernel
theorem dd_M_read_8 : decode mb_M_read 8 = .ok (.getfield 82, 3) := by decide +kernel
theorem dd_M_read_11 : decode mb_M_read 11 = .ok (.iload_n 1, 1) := by decide +kernel
theorem dd_M_read_12 : decode mb_M_read 12 = .ok (.iadd, 1) := by decide +kernel
theorem dd_M_read_13 : decode mb_M_read 13 = .ok (.aload_n 0, 1) := by decide +kernel
theorem dd_M_read_14 : decode mb_M_read 14 = .ok (.getfield 36, 3) := by decide +kernel
theorem dd_M_read_17 : decode mb_M_read 17 = .ok (.if_icmp .le 10, 3) := by decide +kernel
theorem dd_M_read_20 : decode mb_M_read 20 = .ok (.aload_n 0, 1) := by decide +kernel
theorem dd_M_read_21 : decode mb_M_read 21 = .ok (.iconst 1, 1) := by decide +kernel
theorem dd_M_read_22 : decode mb_M_read 22 = .ok (.putfield 78, 3) := by decide +kernel
theorem dd_M_read_25 : decode mb_M_read 25 = .ok (.lconst 0, 1) := by decide +kernel
theorem dd_M_read_26 : decode mb_M_read 26 = .ok (.lreturn, 1) := by decide +kernel
theorem dd_M_read_27 : decode mb_M_read 27 = .ok (.lconst 0, 1) := by decide +kernel
theorem dd_M_read_28 : decode mb_M_read 28 = .ok (.lstore_n 2, 1) := by decide +kernel
theorem dd_M_read_29 : decode mb_M_read 29 = .ok (.iconst 0, 1) := by decide +kernel
theorem dd_M_read_30 : decode mb_M_read 30 = .ok (.istore 4, 2) := by decide +kernel
theorem dd_M_read_32 : decode mb_M_read 32 = .ok (.iload 4, 2) := by decide +kernel
theorem dd_M_read_34 : decode mb_M_read 34 = .ok (.iload_n 1, 1) := by decide +kernel
theorem dd_M_read_35 : decode mb_M_read 35 = .ok (.if_icmp .ge 34, 3) := by decide +kernel
theorem dd_M_read_38 : decode mb_M_read 38 = .ok (.lload_n 2, 1) := by decide +kernel
theorem dd_M_read_39 : decode mb_M_read 39 = .ok (.iconst 1, 1) := by decide +kernel
theorem dd_M_read_40 : decode mb_M_read 40 = .ok (.lshl, 1) := by decide +kernel
theorem dd_M_read_41 : decode mb_M_read 41 = .ok (.aload_n 0, 1) := by decide +kernel
theorem dd_M_read_42 : decode mb_M_read 42 = .ok (.getfield 17, 3) := by decide +kernel
theorem dd_M_read_45 : decode mb_M_read 45 = .ok (.aload_n 0, 1) := by decide +kernel
theorem dd_M_read_46 : decode mb_M_read 46 = .ok (.getfield 82, 3) := by decide +kernel
theorem dd_M_read_49 : decode mb_M_read 49 = .ok (.baload, 1) := by decide +kernel
theorem dd_M_read_50 : decode mb_M_read 50 = .ok (.i2l, 1) := by decide +kernel
theorem dd_M_read_51 : decode mb_M_read 51 = .ok (.lor, 1) := by decide +kernel
theorem dd_M_read_52 : decode mb_M_read 52 = .ok (.lstore_n 2, 1) := by decide +kernel
theorem dd_M_read_53 : decode mb_M_read 53 = .ok (.aload_n 0, 1) := by decide +kernel
theorem dd_M_read_54 : decode mb_M_read 54 = .ok (.dup, 1) := by decide +kernel
theorem dd_M_read_55 : decode mb_M_read 55 = .ok (.getfield 82, 3) := by decide +kernel
theorem dd_M_read_58 : decode mb_M_read 58 = .ok (.iconst 1, 1) := by decide +kernel
theorem dd_M_read_59 : decode mb_M_read 59 = .ok (.iadd, 1) := by decide +kernel
theorem dd_M_read_60 : decode mb_M_read 60 = .ok (.putfield 82, 3) := by decide +kernel
theorem dd_M_read_63 : decode mb_M_read 63 = .ok (.iinc 4 1, 3) := by decide +kernel
theorem dd_M_read_66 : decode mb_M_read 66 = .ok (.goto (-34), 3) := by decide +kernel
theorem dd_M_read_69 : decode mb_M_read 69 = .ok (.lload_n 2, 1) := by decide +kernel
theorem dd_M_read_70 : decode mb_M_read 70 = .ok (.lreturn, 1) := by decide +kernel
theorem dd_M_readTurn_0 : decode mb_M_readTurn 0 = .ok (.aload_n 0, 1) := by decide +kernel
theorem dd_M_readTurn_1 : decode mb_M_readTurn 1 = .ok (.iconst 1, 1) := by decide +kernel
theorem dd_M_readTurn_2 : decode mb_M_readTurn 2 = .ok (.invokevirtual 85, 3) := by decide +kernel
theorem dd_M_readTurn_5 : decode mb_M_readTurn 5 = .ok (.lconst 0, 1) := by decide +kernel
theorem dd_M_readTurn_6 : decode mb_M_readTurn 6 = .ok (.lcmp, 1) := by decide +kernel
theorem dd_M_readTurn_7 : decode mb_M_readTurn 7 = .ok (.ifCond .ne 5, 3) := by decide +kernel
theorem dd_M_readTurn_10 : decode mb_M_readTurn 10 = .ok (.lconst 0, 1) := by decide +kernel
theorem dd_M_readTurn_11 : decode mb_M_readTurn 11 = .ok (.lreturn, 1) := by decide +kernel
theorem dd_M_readTurn_12 : decode mb_M_readTurn 12 = .ok (.aload_n 0, 1) := by decide +kernel
theorem dd_M_readTurn_13 : decode mb_M_readTurn 13 = .ok (.iconst 1, 1) := by decide +kernel
theorem dd_M_readTurn_14 : decode mb_M_readTurn 14 = .ok (.invokevirtual 85, 3) := by decide +kernel
theorem dd_M_readTurn_17 : decode mb_M_readTurn 17 = .ok (.lconst 0, 1) := by decide +kernel
theorem dd_M_readTurn_18 : decode mb_M_readTurn 18 = .ok (.lcmp, 1) := by decide +kernel
theorem dd_M_readTurn_19 : decode mb_M_readTurn 19 = .ok (.ifCond .ne 10, 3) := by decide +kernel
theorem dd_M_readTurn_22 : decode mb_M_readTurn 22 = .ok (.aload_n 0, 1) := by decide +kernel
theorem dd_M_readTurn_23 : decode mb_M_readTurn 23 = .ok (.bipush 7, 2) := by decide +kernel
theorem dd_M_readTurn_25 : decode mb_M_readTurn 25 = .ok (.invokevirtual 89, 3) := by decide +kernel
theorem dd_M_readTurn_28 : decode mb_M_readTurn 28 = .ok (.lreturn, 1) := by decide +kernel
theorem dd_M_readTurn_29 : decode mb_M_readTurn 29 = .ok (.aload_n 0, 1) := by decide +kernel
theorem dd_M_readTurn_30 : decode mb_M_readTurn 30 = .ok (.iconst 1, 1) := by decide +kernel
theorem dd_M_readTurn_31 : decode mb_M_readTurn 31 = .ok (.invokevirtual 85, 3) := by decide +kernel
theorem dd_M_readTurn_34 : decode mb_M_readTurn 34 = .ok (.lconst 0, 1) := by decide +kernel
theorem dd_M_readTurn_35 : decode mb_M_readTurn 35 = .ok (.lcmp, 1) := by decide +kernel
theorem dd_M_readTurn_36 : decode mb_M_readTurn 36 = .ok (.ifCond .ne 10, 3) := by decide +kernel
theorem dd_M_readTurn_39 : decode mb_M_readTurn 39 = .ok (.aload_n 0, 1) := by decide +kernel
theorem dd_M_readTurn_40 : decode mb_M_readTurn 40 = .ok (.bipush 10, 2) := by decide +kernel
theorem dd_M_readTurn_42 : decode mb_M_readTurn 42 = .ok (.invokevirtual 89, 3) := by decide +kernel
theorem dd_M_readTurn_45 : decode mb_M_readTurn 45 = .ok (.lreturn, 1) := by decide +kernel
theorem dd_M_readTurn_46 : decode mb_M_readTurn 46 = .ok (.aload_n 0, 1) := by decide +kernel
theorem dd_M_readTurn_47 : decode mb_M_readTurn 47 = .ok (.iconst 1, 1) := by decide +kernel
theorem dd_M_readTurn_48 : decode mb_M_readTurn 48 = .ok (.invokevirtual 85, 3) := by decide +kernel
theorem dd_M_readTurn_51 : decode mb_M_readTurn 51 = .ok (.lconst 0, 1) := by decide +kernel
theorem dd_M_readTurn_52 : decode mb_M_readTurn 52 = .ok (.lcmp, 1) := by decide +kernel
theorem dd_M_readTurn_53 : decode mb_M_readTurn 53 = .ok (.ifCond .ne 12, 3) := by decide +kernel
theorem dd_M_readTurn_56 : decode mb_M_readTurn 56 = .ok (.aload_n 0, 1) := by decide +kernel
theorem dd_M_readTurn_57 : decode mb_M_readTurn 57 = .ok (.bipush 13, 2) := by decide +kernel
theorem dd_M_readTurn_59 : decode mb_M_readTurn 59 = .ok (.invokevirtual 89, 3) := by decide +kernel
theorem dd_M_readTurn_62 : decode mb_M_readTurn 62 = .ok (.goto 9, 3) := by decide +kernel
theorem dd_M_readTurn_65 : decode mb_M_readTurn 65 = .ok (.aload_n 0, 1) := by decide +kernel
theorem dd_M_readTurn_66 : decode mb_M_readTurn 66 = .ok (.bipush 41, 2) := by decide +kernel
theorem dd_M_readTurn_68 : decode mb_M_readTurn 68 = .ok (.invokevirtual 89, 3) := by decide +kernel
theorem dd_M_readTurn_71 : decode mb_M_readTurn 71 = .ok (.lreturn, 1) := by decide +kernel
theorem dd_M_readSigned_0 : decode mb_M_readSigned 0 = .ok (.aload_n 0, 1) := by decide +kernel
theorem dd_M_readSigned_1 : decode mb_M_readSigned 1 = .ok (.iload_n 1, 1) := by decide +kernel
theorem dd_M_readSigned_2 : decode mb_M_readSigned 2 = .ok (.invokevirtual 85, 3) := by decide +kernel
theorem dd_M_readSigned_5 : decode mb_M_readSigned 5 = .ok (.lstore_n 2, 1) := by decide +kernel
theorem dd_M_readSigned_6 : decode mb_M_readSigned 6 = .ok (.lload_n 2, 1) := by decide +kernel
theorem dd_M_readSigned_7 : decode mb_M_readSigned 7 = .ok (.iload_n 1, 1) := by decide +kernel
theorem dd_M_readSigned_8 : decode mb_M_readSigned 8 = .ok (.iconst 1, 1) := by decide +kernel
theorem dd_M_readSigned_9 : decode mb_M_readSigned 9 = .ok (.isub, 1) := by decide +kernel
theorem dd_M_readSigned_10 : decode mb_M_readSigned 10 = .ok (.lshr, 1) := by decide +kernel
theorem dd_M_readSigned_11 : decode mb_M_readSigned 11 = .ok (.lconst 1, 1) := by decide +kernel
theorem dd_M_readSigned_12 : decode mb_M_readSigned 12 = .ok (.lcmp, 1) := by decide +kernel
theorem dd_M_readSigned_13 : decode mb_M_readSigned 13 = .ok (.ifCond .ne 11, 3) := by decide +kernel
theorem dd_M_readSigned_16 : decode mb_M_readSigned 16 = .ok (.lload_n 2, 1) := by decide +kernel
theorem dd_M_readSigned_17 : decode mb_M_readSigned 17 = .ok (.lconst 1, 1) := by decide +kernel
theorem dd_M_readSigned_18 : decode mb_M_readSigned 18 = .ok (.iload_n 1, 1) := by decide +kernel
theorem dd_M_readSigned_19 : decode mb_M_readSigned 19 = .ok (.lshl, 1) := by decide +kernel
theorem dd_M_readSigned_20 : decode mb_M_readSigned 20 = .ok (.lsub, 1) := by decide +kernel
theorem dd_M_readSigned_21 : decode mb_M_readSigned 21 = .ok (.goto 4, 3) := by decide +kernel
theorem dd_M_readSigned_24 : decode mb_M_readSigned 24 = .ok (.lload_n 2, 1) := by decide +kernel
theorem dd_M_readSigned_25 : decode mb_M_readSigned 25 = .ok (.lreturn, 1) := by decide +kernel
theorem dd_M_readValue_0 : decode mb_M_readValue 0 = .ok (.aload_n 0, 1) := by decide +kernel
theorem dd_M_readValue_1 : decode mb_M_readValue 1 = .ok (.iconst 1, 1) := by decide +kernel
theorem dd_M_readValue_2 : decode mb_M_readValue 2 = .ok (.invokevirtual 85, 3) := by decide +kernel
theorem dd_M_readValue_5 : decode mb_M_readValue 5 = .ok (.lconst 0, 1) := by decide +kernel
theorem dd_M_readValue_6 : decode mb_M_readValue 6 = .ok (.lcmp, 1) := by decide +kernel
theorem dd_M_readValue_7 : decode mb_M_readValue 7 = .ok (.ifCond .ne 5, 3) := by decide +kernel
theorem dd_M_readValue_10 : decode mb_M_readValue 10 = .ok (.lconst 0, 1) := by decide +kernel
theorem dd_M_readValue_11 : decode mb_M_readValue 11 = .ok (.lreturn, 1) := by decide +kernel
theorem dd_M_readValue_12 : decode mb_M_readValue 12 = .ok (.aload_n 0, 1) := by decide +kernel
theorem dd_M_readValue_13 : decode mb_M_readValue 13 = .ok (.iconst 1, 1) := by decide +kernel
theorem dd_M_readValue_14 : decode mb_M_readValue 14 = .ok (.invokevirtual 85, 3) := by decide +kernel
theorem dd_M_readValue_17 : decode mb_M_readValue 17 = .ok (.lconst 1, 1) := by decide +kernel
theorem dd_M_readValue_18 : decode mb_M_readValue 18 = .ok (.lcmp, 1) := by decide +kernel
theorem dd_M_readValue_19 : decode mb_M_readValue 19 = .ok (.ifCond .ne 54, 3) := by decide +kernel
theorem dd_M_readValue_22 : decode mb_M_readValue 22 = .ok (.aload_n 0, 1) := by decide +kernel
theorem dd_M_readValue_23 : decode mb_M_readValue 23 = .ok (.iconst 5, 1) := by decide +kernel
theorem dd_M_readValue_24 : decode mb_M_readValue 24 = .ok (.invokevirtual 85, 3) := by decide +kernel
theorem dd_M_readValue_27 : decode mb_M_readValue 27 = .ok (.l2i, 1) := by decide +kernel
theorem dd_M_readValue_28 : decode mb_M_readValue 28 = .ok (.istore_n 1, 1) := by decide +kernel
theorem dd_M_readValue_29 : decode mb_M_readValue 29 = .ok (.aload_n 0, 1) := by decide +kernel
theorem dd_M_readValue_30 : decode mb_M_readValue 30 = .ok (.bipush 6, 2) := by decide +kernel
theorem dd_M_readValue_32 : decode mb_M_readValue 32 = .ok (.invokevirtual 85, 3) := by decide +kernel
theorem dd_M_readValue_35 : decode mb_M_readValue 35 = .ok (.l2i, 1) := by decide +kernel
theorem dd_M_readValue_36 : decode mb_M_readValue 36 = .ok (.iconst 1, 1) := by decide +kernel
theorem dd_M_readValue_37 : decode mb_M_readValue 37 = .ok (.iadd, 1) := by decide +kernel
theorem dd_M_readValue_38 : decode mb_M_readValue 38 = .ok (.istore_n 2, 1) := by decide +kernel
theorem dd_M_readValue_39 : decode mb_M_readValue 39 = .ok (.aload_n 0, 1) := by decide +kernel
theorem dd_M_readValue_40 : decode mb_M_readValue 40 = .ok (.aload_n 0, 1) := by decide +kernel
theorem dd_M_readValue_41 : decode mb_M_readValue 41 = .ok (.getfield 78, 3) := by decide +kernel
theorem dd_M_readValue_44 : decode mb_M_readValue 44 = .ok (.ifCond .ne 11, 3) := by decide +kernel
theorem dd_M_readValue_47 : decode mb_M_readValue 47 = .ok (.iload_n 1, 1) := by decide +kernel
theorem dd_M_readValue_48 : decode mb_M_readValue 48 = .ok (.iload_n 2, 1) := by decide +kernel
theorem dd_M_readValue_49 : decode mb_M_readValue 49 = .ok (.iadd, 1) := by decide +kernel
theorem dd_M_readValue_50 : decode mb_M_readValue 50 = .ok (.bipush 64, 2) := by decide +kernel
theorem dd_M_readValue_52 : decode mb_M_readValue 52 = .ok (.if_icmp .le 7, 3) := by decide +kernel
theorem dd_M_readValue_55 : decode mb_M_readValue 55 = .ok (.iconst 1, 1) := by decide +kernel
theorem dd_M_readValue_56 : decode mb_M_readValue 56 = .ok (.goto 4, 3) := by decide +kernel
theorem dd_M_readValue_59 : decode mb_M_readValue 59 = .ok (.iconst 0, 1) := by decide +kernel
theorem dd_M_readValue_60 : decode mb_M_readValue 60 = .ok (.putfield 78, 3) := by decide +kernel
theorem dd_M_readValue_63 : decode mb_M_readValue 63 = .ok (.aload_n 0, 1) := by decide +kernel
theorem dd_M_readValue_64 : decode mb_M_readValue 64 = .ok (.iload_n 1, 1) := by decide +kernel
theorem dd_M_readValue_65 : decode mb_M_readValue 65 = .ok (.putfield 66, 3) := by decide +kernel
theorem dd_M_readValue_68 : decode mb_M_readValue 68 = .ok (.aload_n 0, 1) := by decide +kernel
theorem dd_M_readValue_69 : decode mb_M_readValue 69 = .ok (.iload_n 2, 1) := by decide +kernel
theorem dd_M_readValue_70 : decode mb_M_readValue 70 = .ok (.putfield 63, 3) := by decide +kernel
theorem dd_M_readValue_73 : decode mb_M_readValue 73 = .ok (.aload_n 0, 1) := by decide +kernel
theorem dd_M_readValue_74 : decode mb_M_readValue 74 = .ok (.aload_n 0, 1) := by decide +kernel
theorem dd_M_readValue_75 : decode mb_M_readValue 75 = .ok (.getfield 78, 3) := by decide +kernel
theorem dd_M_readValue_78 : decode mb_M_readValue 78 = .ok (.ifCond .ne 10, 3) := by decide +kernel
theorem dd_M_readValue_81 : decode mb_M_readValue 81 = .ok (.aload_n 0, 1) := by decide +kernel
theorem dd_M_readValue_82 : decode mb_M_readValue 82 = .ok (.getfield 63, 3) := by decide +kernel
theorem dd_M_readValue_85 : decode mb_M_readValue 85 = .ok (.ifCond .ne 7, 3) := by decide +kernel
theorem dd_M_readValue_88 : decode mb_M_readValue 88 = .ok (.iconst 1, 1) := by decide +kernel
theorem dd_M_readValue_89 : decode mb_M_readValue 89 = .ok (.goto 4, 3) := by decide +kernel
theorem dd_M_readValue_92 : decode mb_M_readValue 92 = .ok (.iconst 0, 1) := by decide +kernel
theorem dd_M_readValue_93 : decode mb_M_readValue 93 = .ok (.putfield 78, 3) := by decide +kernel
theorem dd_M_readValue_96 : decode mb_M_readValue 96 = .ok (.aload_n 0, 1) := by decide +kernel
theorem dd_M_readValue_97 : decode mb_M_readValue 97 = .ok (.getfield 78, 3) := by decide +kernel
theorem dd_M_readValue_100 : decode mb_M_readValue 100 = .ok (.ifCond .eq 7, 3) := by decide +kernel
theorem dd_M_readValue_103 : decode mb_M_readValue 103 = .ok (.lconst 0, 1) := by decide +kernel
theorem dd_M_readValue_104 : decode mb_M_readValue 104 = .ok (.goto 24, 3) := by decide +kernel
theorem dd_M_readValue_107 : decode mb_M_readValue 107 = .ok (.aload_n 0, 1) := by decide +kernel
theorem dd_M_readValue_108 : decode mb_M_readValue 108 = .ok (.aload_n 0, 1) := by decide +kernel
theorem dd_M_readValue_109 : decode mb_M_readValue 109 = .ok (.getfield 63, 3) := by decide +kernel
theorem dd_M_readValue_112 : decode mb_M_readValue 112 = .ok (.invokevirtual 85, 3) := by decide +kernel
theorem dd_M_readValue_115 : decode mb_M_readValue 115 = .ok (.bipush 64, 2) := by decide +kernel
theorem dd_M_readValue_117 : decode mb_M_readValue 117 = .ok (.aload_n 0, 1) := by decide +kernel
theorem dd_M_readValue_118 : decode mb_M_readValue 118 = .ok (.getfield 66, 3) := by decide +kernel
theorem dd_M_readValue_121 : decode mb_M_readValue 121 = .ok (.isub, 1) := by decide +kernel
theorem dd_M_readValue_122 : decode mb_M_readValue 122 = .ok (.aload_n 0, 1) := by decide +kernel
theorem dd_M_readValue_123 : decode mb_M_readValue 123 = .ok (.getfield 63, 3) := by decide +kernel
theorem dd_M_readValue_126 : decode mb_M_readValue 126 = .ok (.isub, 1) := by decide +kernel
theorem dd_M_readValue_127 : decode mb_M_readValue 127 = .ok (.lshl, 1) := by decide +kernel
theorem dd_M_readValue_128 : decode mb_M_readValue 128 = .ok (.lreturn, 1) := by decide +kernel
theorem dd_M_taken_0 : decode mb_M_taken 0 = .ok (.aload_n 0, 1) := by decide +kernel
theorem dd_M_taken_1 : decode mb_M_taken 1 = .ok (.iconst 0, 1) := by decide +kernel
theorem dd_M_taken_2 : decode mb_M_taken 2 = .ok (.putfield 27, 3) := by decide +kernel
theorem dd_M_taken_5 : decode mb_M_taken 5 = .ok (.aload_n 0, 1) := by decide +kernel
theorem dd_M_taken_6 : decode mb_M_taken 6 = .ok (.getfield 99, 3) := by decide +kernel
theorem dd_M_taken_9 : decode mb_M_taken 9 = .ok (.ireturn, 1) := by decide +kernel
theorem dd_M_count_0 : decode mb_M_count 0 = .ok (.aload_n 0, 1) := by decide +kernel
theorem dd_M_count_1 : decode mb_M_count 1 = .ok (.iload_n 1, 1) := by decide +kernel
theorem dd_M_count_2 : decode mb_M_count 2 = .ok (.ifCond .eq 8, 3) := by decide +kernel
theorem dd_M_count_5 : decode mb_M_count 5 = .ok (.iload_n 1, 1) := by decide +kernel
theorem dd_M_count_6 : decode mb_M_count 6 = .ok (.iconst 1, 1) := by decide +kernel
theorem dd_M_count_7 : decode mb_M_count 7 = .ok (.if_icmp .ne 7, 3) := by decide +kernel
theorem dd_M_count_10 : decode mb_M_count 10 = .ok (.iconst 0, 1) := by decide +kernel
theorem dd_M_count_11 : decode mb_M_count 11 = .ok (.goto 4, 3) := by decide +kernel
theorem dd_M_count_14 : decode mb_M_count 14 = .ok (.iconst 1, 1) := by decide +kernel
theorem dd_M_count_15 : decode mb_M_count 15 = .ok (.putfield 27, 3) := by decide +kernel
theorem dd_M_count_18 : decode mb_M_count 18 = .ok (.aload_n 0, 1) := by decide +kernel
theorem dd_M_count_19 : decode mb_M_count 19 = .ok (.getfield 27, 3) := by decide +kernel
theorem dd_M_count_22 : decode mb_M_count 22 = .ok (.ifCond .le 7, 3) := by decide +kernel
theorem dd_M_count_25 : decode mb_M_count 25 = .ok (.iconst 0, 1) := by decide +kernel
theorem dd_M_count_26 : decode mb_M_count 26 = .ok (.goto 18, 3) := by decide +kernel
theorem dd_M_count_29 : decode mb_M_count 29 = .ok (.iload_n 1, 1) := by decide +kernel
theorem dd_M_count_30 : decode mb_M_count 30 = .ok (.ifCond .ne 10, 3) := by decide +kernel
theorem dd_M_count_33 : decode mb_M_count 33 = .ok (.aload_n 0, 1) := by decide +kernel
theorem dd_M_count_34 : decode mb_M_count 34 = .ok (.getfield 33, 3) := by decide +kernel
theorem dd_M_count_37 : decode mb_M_count 37 = .ok (.goto 7, 3) := by decide +kernel
theorem dd_M_count_40 : decode mb_M_count 40 = .ok (.aload_n 0, 1) := by decide +kernel
theorem dd_M_count_41 : decode mb_M_count 41 = .ok (.getfield 36, 3) := by decide +kernel
theorem dd_M_count_44 : decode mb_M_count 44 = .ok (.ireturn, 1) := by decide +kernel
theorem dd_M_time_0 : decode mb_M_time 0 = .ok (.aload_n 0, 1) := by decide +kernel
theorem dd_M_time_1 : decode mb_M_time 1 = .ok (.iload_n 1, 1) := by decide +kernel
theorem dd_M_time_2 : decode mb_M_time 2 = .ok (.ifCond .lt 11, 3) := by decide +kernel
theorem dd_M_time_5 : decode mb_M_time 5 = .ok (.iload_n 1, 1) := by decide +kernel
theorem dd_M_time_6 : decode mb_M_time 6 = .ok (.aload_n 0, 1) := by decide +kernel
theorem dd_M_time_7 : decode mb_M_time 7 = .ok (.getfield 33, 3) := by decide +kernel
theorem dd_M_time_10 : decode mb_M_time 10 = .ok (.if_icmp .lt 7, 3) := by decide +kernel
theorem dd_M_time_13 : decode mb_M_time 13 = .ok (.iconst 1, 1) := by decide +kernel
theorem dd_M_time_14 : decode mb_M_time 14 = .ok (.goto 4, 3) := by decide +kernel
theorem dd_M_time_17 : decode mb_M_time 17 = .ok (.iconst 0, 1) := by decide +kernel
theorem dd_M_time_18 : decode mb_M_time 18 = .ok (.putfield 27, 3) := by decide +kernel
theorem dd_M_time_21 : decode mb_M_time 21 = .ok (.aload_n 0, 1) := by decide +kernel
theorem dd_M_time_22 : decode mb_M_time 22 = .ok (.getfield 27, 3) := by decide +kernel
theorem dd_M_time_25 : decode mb_M_time 25 = .ok (.ifCond .le 7, 3) := by decide +kernel
theorem dd_M_time_28 : decode mb_M_time 28 = .ok (.lconst 0, 1) := by decide +kernel
theorem dd_M_time_29 : decode mb_M_time 29 = .ok (.goto 9, 3) := by decide +kernel
theorem dd_M_time_32 : decode mb_M_time 32 = .ok (.aload_n 0, 1) := by decide +kernel
theorem dd_M_time_33 : decode mb_M_time 33 = .ok (.getfield 7, 3) := by decide +kernel
theorem dd_M_time_36 : decode mb_M_time 36 = .ok (.iload_n 1, 1) := by decide +kernel
theorem dd_M_time_37 : decode mb_M_time 37 = .ok (.laload, 1) := by decide +kernel
theorem dd_M_time_38 : decode mb_M_time 38 = .ok (.lreturn, 1) := by decide +kernel
theorem dd_M_value_0 : decode mb_M_value 0 = .ok (.aload_n 0, 1) := by decide +kernel
theorem dd_M_value_1 : decode mb_M_value 1 = .ok (.iload_n 1, 1) := by decide +kernel
theorem dd_M_value_2 : decode mb_M_value 2 = .ok (.ifCond .lt 11, 3) := by decide +kernel
theorem dd_M_value_5 : decode mb_M_value 5 = .ok (.iload_n 1, 1) := by decide +kernel
theorem dd_M_value_6 : decode mb_M_value 6 = .ok (.aload_n 0, 1) := by decide +kernel
theorem dd_M_value_7 : decode mb_M_value 7 = .ok (.getfield 33, 3) := by decide +kernel
theorem dd_M_value_10 : decode mb_M_value 10 = .ok (.if_icmp .lt 7, 3) := by decide +kernel
theorem dd_M_value_13 : decode mb_M_value 13 = .ok (.iconst 1, 1) := by decide +kernel
theorem dd_M_value_14 : decode mb_M_value 14 = .ok (.goto 4, 3) := by decide +kernel
theorem dd_M_value_17 : decode mb_M_value 17 = .ok (.iconst 0, 1) := by decide +kernel
theorem dd_M_value_18 : decode mb_M_value 18 = .ok (.putfield 27, 3) := by decide +kernel
theorem dd_M_value_21 : decode mb_M_value 21 = .ok (.aload_n 0, 1) := by decide +kernel
theorem dd_M_value_22 : decode mb_M_value 22 = .ok (.getfield 27, 3) := by decide +kernel
theorem dd_M_value_25 : decode mb_M_value 25 = .ok (.ifCond .le 7, 3) := by decide +kernel
theorem dd_M_value_28 : decode mb_M_value 28 = .ok (.lconst 0, 1) := by decide +kernel
theorem dd_M_value_29 : decode mb_M_value 29 = .ok (.goto 9, 3) := by decide +kernel
theorem dd_M_value_32 : decode mb_M_value 32 = .ok (.aload_n 0, 1) := by decide +kernel
theorem dd_M_value_33 : decode mb_M_value 33 = .ok (.getfield 13, 3) := by decide +kernel
theorem dd_M_value_36 : decode mb_M_value 36 = .ok (.iload_n 1, 1) := by decide +kernel
theorem dd_M_value_37 : decode mb_M_value 37 = .ok (.laload, 1) := by decide +kernel
theorem dd_M_value_38 : decode mb_M_value 38 = .ok (.lreturn, 1) := by decide +kernel
theorem dd_M_bit_0 : decode mb_M_bit 0 = .ok (.aload_n 0, 1) := by decide +kernel
theorem dd_M_bit_1 : decode mb_M_bit 1 = .ok (.iload_n 1, 1) := by decide +kernel
theorem dd_M_bit_2 : decode mb_M_bit 2 = .ok (.ifCond .lt 11, 3) := by decide +kernel
theorem dd_M_bit_5 : decode mb_M_bit 5 = .ok (.iload_n 1, 1) := by decide +kernel
theorem dd_M_bit_6 : decode mb_M_bit 6 = .ok (.aload_n 0, 1) := by decide +kernel
theorem dd_M_bit_7 : decode mb_M_bit 7 = .ok (.getfield 36, 3) := by decide +kernel
theorem dd_M_bit_10 : decode mb_M_bit 10 = .ok (.if_icmp .lt 7, 3) := by decide +kernel
theorem dd_M_bit_13 : decode mb_M_bit 13 = .ok (.iconst 1, 1) := by decide +kernel
theorem dd_M_bit_14 : decode mb_M_bit 14 = .ok (.goto 4, 3) := by decide +kernel
theorem dd_M_bit_17 : decode mb_M_bit 17 = .ok (.iconst 0, 1) := by decide +kernel
theorem dd_M_bit_18 : decode mb_M_bit 18 = .ok (.putfield 27, 3) := by decide +kernel
theorem dd_M_bit_21 : decode mb_M_bit 21 = .ok (.aload_n 0, 1) := by decide +kernel
theorem dd_M_bit_22 : decode mb_M_bit 22 = .ok (.getfield 27, 3) := by decide +kernel
theorem dd_M_bit_25 : decode mb_M_bit 25 = .ok (.ifCond .ne 17, 3) := by decide +kernel
theorem dd_M_bit_28 : decode mb_M_bit 28 = .ok (.aload_n 0, 1) := by decide +kernel
theorem dd_M_bit_29 : decode mb_M_bit 29 = .ok (.getfield 17, 3) := by decide +kernel
theorem dd_M_bit_32 : decode mb_M_bit 32 = .ok (.iload_n 1, 1) := by decide +kernel
theorem dd_M_bit_33 : decode mb_M_bit 33 = .ok (.baload, 1) := by decide +kernel
theorem dd_M_bit_34 : decode mb_M_bit 34 = .ok (.iconst 1, 1) := by decide +kernel
theorem dd_M_bit_35 : decode mb_M_bit 35 = .ok (.if_icmp .ne 7, 3) := by decide +kernel
theorem dd_M_bit_38 : decode mb_M_bit 38 = .ok (.iconst 1, 1) := by decide +kernel
theorem dd_M_bit_39 : decode mb_M_bit 39 = .ok (.goto 4, 3) := by decide +kernel
theorem dd_M_bit_42 : decode mb_M_bit 42 = .ok (.iconst 0, 1) := by decide +kernel
theorem dd_M_bit_43 : decode mb_M_bit 43 = .ok (.ireturn, 1) := by decide +kernel
theorem dd_M_flip_0 : decode mb_M_flip 0 = .ok (.aload_n 0, 1) := by decide +kernel
theorem dd_M_flip_1 : decode mb_M_flip 1 = .ok (.iload_n 1, 1) := by decide +kernel
theorem dd_M_flip_2 : decode mb_M_flip 2 = .ok (.ifCond .lt 11, 3) := by decide +kernel
theorem dd_M_flip_5 : decode mb_M_flip 5 = .ok (.iload_n 1, 1) := by decide +kernel
theorem dd_M_flip_6 : decode mb_M_flip 6 = .ok (.aload_n 0, 1) := by decide +kernel
theorem dd_M_flip_7 : decode mb_M_flip 7 = .ok (.getfield 36, 3) := by decide +kernel
theorem dd_M_flip_10 : decode mb_M_flip 10 = .ok (.if_icmp .lt 7, 3) := by decide +kernel
theorem dd_M_flip_13 : decode mb_M_flip 13 = .ok (.iconst 1, 1) := by decide +kernel
theorem dd_M_flip_14 : decode mb_M_flip 14 = .ok (.goto 4, 3) := by decide +kernel
theorem dd_M_flip_17 : decode mb_M_flip 17 = .ok (.iconst 0, 1) := by decide +kernel
theorem dd_M_flip_18 : decode mb_M_flip 18 = .ok (.putfield 27, 3) := by decide +kernel
theorem dd_M_flip_21 : decode mb_M_flip 21 = .ok (.aload_n 0, 1) := by decide +kernel
theorem dd_M_flip_22 : decode mb_M_flip 22 = .ok (.getfield 27, 3) := by decide +kernel
theorem dd_M_flip_25 : decode mb_M_flip 25 = .ok (.ifCond .ne 18, 3) := by decide +kernel
theorem dd_M_flip_28 : decode mb_M_flip 28 = .ok (.aload_n 0, 1) := by decide +kernel
theorem dd_M_flip_29 : decode mb_M_flip 29 = .ok (.getfield 17, 3) := by decide +kernel
theorem dd_M_flip_32 : decode mb_M_flip 32 = .ok (.iload_n 1, 1) := by decide +kernel
theorem dd_M_flip_33 : decode mb_M_flip 33 = .ok (.iconst 1, 1) := by decide +kernel
theorem dd_M_flip_34 : decode mb_M_flip 34 = .ok (.aload_n 0, 1) := by decide +kernel
theorem dd_M_flip_35 : decode mb_M_flip 35 = .ok (.getfield 17, 3) := by decide +kernel
theorem dd_M_flip_38 : decode mb_M_flip 38 = .ok (.iload_n 1, 1) := by decide +kernel
theorem dd_M_flip_39 : decode mb_M_flip 39 = .ok (.baload, 1) := by decide +kernel
theorem dd_M_flip_40 : decode mb_M_flip 40 = .ok (.isub, 1) := by decide +kernel
theorem dd_M_flip_41 : decode mb_M_flip 41 = .ok (.i2b, 1) := by decide +kernel
theorem dd_M_flip_42 : decode mb_M_flip 42 = .ok (.bastore, 1) := by decide +kernel
theorem dd_M_flip_43 : decode mb_M_flip 43 = .ok (.return_, 1) := by decide +kernel
theorem dd_M_put_0 : decode mb_M_put 0 = .ok (.iload_n 3, 1) := by decide +kernel
theorem dd_M_put_1 : decode mb_M_put 1 = .ok (.ifCond .lt 37, 3) := by decide +kernel
theorem dd_M_put_4 : decode mb_M_put 4 = .ok (.iload_n 3, 1) := by decide +kernel
theorem dd_M_put_5 : decode mb_M_put 5 = .ok (.bipush 64, 2) := by decide +kernel
theorem dd_M_put_7 : decode mb_M_put 7 = .ok (.if_icmp .gt 31, 3) := by decide +kernel
theorem dd_M_put_10 : decode mb_M_put 10 = .ok (.iload_n 3, 1) := by decide +kernel
theorem dd_M_put_11 : decode mb_M_put 11 = .ok (.bipush 64, 2) := by decide +kernel
theorem dd_M_put_13 : decode mb_M_put 13 = .ok (.if_icmp .eq 21, 3) := by decide +kernel
theorem dd_M_put_16 : decode mb_M_put 16 = .ok (.lload_n 1, 1) := by decide +kernel
theorem dd_M_put_17 : decode mb_M_put 17 = .ok (.iload_n 3, 1) := by decide +kernel
theorem dd_M_put_18 : decode mb_M_put 18 = .ok (.lushr, 1) := by decide +kernel
theorem dd_M_put_19 : decode mb_M_put 19 = .ok (.lconst 0, 1) := by decide +kernel
theorem dd_M_put_20 : decode mb_M_put 20 = .ok (.lcmp, 1) := by decide +kernel
theorem dd_M_put_21 : decode mb_M_put 21 = .ok (.ifCond .ne 17, 3) := by decide +kernel
theorem dd_M_put_24 : decode mb_M_put 24 = .ok (.iload_n 3, 1) := by decide +kernel
theorem dd_M_put_25 : decode mb_M_put 25 = .ok (.ifCond .gt 9, 3) := by decide +kernel
theorem dd_M_put_28 : decode mb_M_put 28 = .ok (.lload_n 1, 1) := by decide +kernel
theorem dd_M_put_29 : decode mb_M_put 29 = .ok (.lconst 0, 1) := by decide +kernel
theorem dd_M_put_30 : decode mb_M_put 30 = .ok (.lcmp, 1) := by decide +kernel
theorem dd_M_put_31 : decode mb_M_put 31 = .ok (.ifCond .ne 7, 3) := by decide +kernel
theorem dd_M_put_34 : decode mb_M_put 34 = .ok (.iconst 1, 1) := by decide +kernel
theorem dd_M_put_35 : decode mb_M_put 35 = .ok (.goto 4, 3) := by decide +kernel
theorem dd_M_put_38 : decode mb_M_put 38 = .ok (.iconst 0, 1) := by decide +kernel
theorem dd_M_put_39 : decode mb_M_put 39 = .ok (.istore 4, 2) := by decide +kernel
theorem dd_M_put_41 : decode mb_M_put 41 = .ok (.aload_n 0, 1) := by decide +kernel
theorem dd_M_put_42 : decode mb_M_put 42 = .ok (.iload 4, 2) := by decide +kernel
theorem dd_M_put_44 : decode mb_M_put 44 = .ok (.ifCond .ne 7, 3) := by decide +kernel
theorem dd_M_put_47 : decode mb_M_put 47 = .ok (.iconst 1, 1) := by decide +kernel
theorem dd_M_put_48 : decode mb_M_put 48 = .ok (.goto 19, 3) := by decide +kernel
theorem dd_M_put_51 : decode mb_M_put 51 = .ok (.aload_n 0, 1) := by decide +kernel
theorem dd_M_put_52 : decode mb_M_put 52 = .ok (.getfield 36, 3) := by decide +kernel
theorem dd_M_put_55 : decode mb_M_put 55 = .ok (.iload_n 3, 1) := by decide +kernel
theorem dd_M_put_56 : decode mb_M_put 56 = .ok (.iadd, 1) := by decide +kernel
theorem dd_M_put_57 : decode mb_M_put 57 = .ok (.ldc 16, 2) := by decide +kernel
theorem dd_M_put_59 : decode mb_M_put 59 = .ok (.if_icmp .le 7, 3) := by decide +kernel
theorem dd_M_put_62 : decode mb_M_put 62 = .ok (.iconst 2, 1) := by decide +kernel
theorem dd_M_put_63 : decode mb_M_put 63 = .ok (.goto 4, 3) := by decide +kernel
theorem dd_M_put_66 : decode mb_M_put 66 = .ok (.iconst 0, 1) := by decide +kernel
theorem dd_M_put_67 : decode mb_M_put 67 = .ok (.putfield 27, 3) := by decide +kernel
theorem dd_M_put_70 : decode mb_M_put 70 = .ok (.aload_n 0, 1) := by decide +kernel
theorem dd_M_put_71 : decode mb_M_put 71 = .ok (.getfield 27, 3) := by decide +kernel
theorem dd_M_put_74 : decode mb_M_put 74 = .ok (.ifCond .le 5, 3) := by decide +kernel
theorem dd_M_put_77 : decode mb_M_put 77 = .ok (.iconst 0, 1) := by decide +kernel
theorem dd_M_put_78 : decode mb_M_put 78 = .ok (.ireturn, 1) := by decide +kernel
theorem dd_M_put_79 : decode mb_M_put 79 = .ok (.aload_n 0, 1) := by decide +kernel
theorem dd_M_put_80 : decode mb_M_put 80 = .ok (.lload_n 1, 1) := by decide +kernel
theorem dd_M_put_81 : decode mb_M_put 81 = .ok (.iload_n 3, 1) := by decide +kernel
theorem dd_M_put_82 : decode mb_M_put 82 = .ok (.invokevirtual 39, 3) := by decide +kernel
theorem dd_M_put_85 : decode mb_M_put 85 = .ok (.aload_n 0, 1) := by decide +kernel
theorem dd_M_put_86 : decode mb_M_put 86 = .ok (.getfield 36, 3) := by decide +kernel
theorem dd_M_put_89 : decode mb_M_put 89 = .ok (.ireturn, 1) := by decide +kernel
theorem dd_M_cut_0 : decode mb_M_cut 0 = .ok (.aload_n 0, 1) := by decide +kernel
theorem dd_M_cut_1 : decode mb_M_cut 1 = .ok (.iload_n 1, 1) := by decide +kernel
theorem dd_M_cut_2 : decode mb_M_cut 2 = .ok (.ifCond .lt 11, 3) := by decide +kernel
theorem dd_M_cut_5 : decode mb_M_cut 5 = .ok (.iload_n 1, 1) := by decide +kernel
theorem dd_M_cut_6 : decode mb_M_cut 6 = .ok (.aload_n 0, 1) := by decide +kernel
theorem dd_M_cut_7 : decode mb_M_cut 7 = .ok (.getfield 36, 3) := by decide +kernel
theorem dd_M_cut_10 : decode mb_M_cut 10 = .ok (.if_icmp .le 7, 3) := by decide +kernel
theorem dd_M_cut_13 : decode mb_M_cut 13 = .ok (.iconst 1, 1) := by decide +kernel
theorem dd_M_cut_14 : decode mb_M_cut 14 = .ok (.goto 4, 3) := by decide +kernel
theorem dd_M_cut_17 : decode mb_M_cut 17 = .ok (.iconst 0, 1) := by decide +kernel
theorem dd_M_cut_18 : decode mb_M_cut 18 = .ok (.putfield 27, 3) := by decide +kernel
theorem dd_M_cut_21 : decode mb_M_cut 21 = .ok (.aload_n 0, 1) := by decide +kernel
theorem dd_M_cut_22 : decode mb_M_cut 22 = .ok (.aload_n 0, 1) := by decide +kernel
theorem dd_M_cut_23 : decode mb_M_cut 23 = .ok (.getfield 27, 3) := by decide +kernel
theorem dd_M_cut_26 : decode mb_M_cut 26 = .ok (.ifCond .ne 7, 3) := by decide +kernel
theorem dd_M_cut_29 : decode mb_M_cut 29 = .ok (.iload_n 1, 1) := by decide +kernel
theorem dd_M_cut_30 : decode mb_M_cut 30 = .ok (.goto 7, 3) := by decide +kernel
theorem dd_M_cut_33 : decode mb_M_cut 33 = .ok (.aload_n 0, 1) := by decide +kernel
theorem dd_M_cut_34 : decode mb_M_cut 34 = .ok (.getfield 36, 3) := by decide +kernel
theorem dd_M_cut_37 : decode mb_M_cut 37 = .ok (.putfield 36, 3) := by decide +kernel
theorem dd_M_cut_40 : decode mb_M_cut 40 = .ok (.return_, 1) := by decide +kernel
