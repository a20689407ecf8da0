theorem dd_X_init_0 : decode mb_X_init 0 = .ok (.aload_n 0, 1) := by decide +kernel
theorem dd_X_init_1 : decode mb_X_init 1 = .ok (.invokespecial 1, 3) := by decide +kernel
theorem dd_X_init_4 : decode mb_X_init 4 = .ok (.aload_n 0, 1) := by decide +kernel
theorem dd_X_init_5 : decode mb_X_init 5 = .ok (.new 7, 3) := by decide +kernel
theorem dd_X_init_8 : decode mb_X_init 8 = .ok (.dup, 1) := by decide +kernel
theorem dd_X_init_9 : decode mb_X_init 9 = .ok (.invokespecial 9, 3) := by decide +kernel
theorem dd_X_init_12 : decode mb_X_init 12 = .ok (.putfield 10, 3) := by decide +kernel
theorem dd_X_init_15 : decode mb_X_init 15 = .ok (.aload_n 0, 1) := by decide +kernel
theorem dd_X_init_16 : decode mb_X_init 16 = .ok (.new 7, 3) := by decide +kernel
theorem dd_X_init_19 : decode mb_X_init 19 = .ok (.dup, 1) := by decide +kernel
theorem dd_X_init_20 : decode mb_X_init 20 = .ok (.invokespecial 9, 3) := by decide +kernel
theorem dd_X_init_23 : decode mb_X_init 23 = .ok (.putfield 16, 3) := by decide +kernel
theorem dd_X_init_26 : decode mb_X_init 26 = .ok (.aload_n 0, 1) := by decide +kernel
theorem dd_X_init_27 : decode mb_X_init 27 = .ok (.new 19, 3) := by decide +kernel
theorem dd_X_init_30 : decode mb_X_init 30 = .ok (.dup, 1) := by decide +kernel
theorem dd_X_init_31 : decode mb_X_init 31 = .ok (.invokespecial 21, 3) := by decide +kernel
theorem dd_X_init_34 : decode mb_X_init 34 = .ok (.putfield 22, 3) := by decide +kernel
theorem dd_X_init_37 : decode mb_X_init 37 = .ok (.aload_n 0, 1) := by decide +kernel
theorem dd_X_init_38 : decode mb_X_init 38 = .ok (.new 19, 3) := by decide +kernel
theorem dd_X_init_41 : decode mb_X_init 41 = .ok (.dup, 1) := by decide +kernel
theorem dd_X_init_42 : decode mb_X_init 42 = .ok (.invokespecial 21, 3) := by decide +kernel
theorem dd_X_init_45 : decode mb_X_init 45 = .ok (.putfield 26, 3) := by decide +kernel
theorem dd_X_init_48 : decode mb_X_init 48 = .ok (.aload_n 0, 1) := by decide +kernel
theorem dd_X_init_49 : decode mb_X_init 49 = .ok (.iconst 0, 1) := by decide +kernel
theorem dd_X_init_50 : decode mb_X_init 50 = .ok (.putfield 29, 3) := by decide +kernel
theorem dd_X_init_53 : decode mb_X_init 53 = .ok (.return_, 1) := by decide +kernel
theorem dd_X_taken_0 : decode mb_X_taken 0 = .ok (.aload_n 0, 1) := by decide +kernel
theorem dd_X_taken_1 : decode mb_X_taken 1 = .ok (.getfield 29, 3) := by decide +kernel
theorem dd_X_taken_4 : decode mb_X_taken 4 = .ok (.ireturn, 1) := by decide +kernel
theorem dd_X_add_0 : decode mb_X_add 0 = .ok (.lload_n 1, 1) := by decide +kernel
theorem dd_X_add_1 : decode mb_X_add 1 = .ok (.lconst 0, 1) := by decide +kernel
theorem dd_X_add_2 : decode mb_X_add 2 = .ok (.lcmp, 1) := by decide +kernel
theorem dd_X_add_3 : decode mb_X_add 3 = .ok (.ifCond .lt 11, 3) := by decide +kernel
theorem dd_X_add_6 : decode mb_X_add 6 = .ok (.lload_n 1, 1) := by decide +kernel
theorem dd_X_add_7 : decode mb_X_add 7 = .ok (.ldc2_w 33, 3) := by decide +kernel
theorem dd_X_add_10 : decode mb_X_add 10 = .ok (.lcmp, 1) := by decide +kernel
theorem dd_X_add_11 : decode mb_X_add 11 = .ok (.ifCond .le 13, 3) := by decide +kernel
theorem dd_X_add_14 : decode mb_X_add 14 = .ok (.new 35, 3) := by decide +kernel
theorem dd_X_add_17 : decode mb_X_add 17 = .ok (.dup, 1) := by decide +kernel
theorem dd_X_add_18 : decode mb_X_add 18 = .ok (.ldc 37, 2) := by decide +kernel
theorem dd_X_add_20 : decode mb_X_add 20 = .ok (.invokespecial 39, 3) := by decide +kernel
theorem dd_X_add_23 : decode mb_X_add 23 = .ok (.athrow, 1) := by decide +kernel
theorem dd_X_add_24 : decode mb_X_add 24 = .ok (.lload_n 1, 1) := by decide +kernel
theorem dd_X_add_25 : decode mb_X_add 25 = .ok (.aload_n 0, 1) := by decide +kernel
theorem dd_X_add_26 : decode mb_X_add 26 = .ok (.getfield 10, 3) := by decide +kernel
theorem dd_X_add_29 : decode mb_X_add 29 = .ok (.invokevirtual 42, 3) := by decide +kernel
theorem dd_X_add_32 : decode mb_X_add 32 = .ok (.lcmp, 1) := by decide +kernel
theorem dd_X_add_33 : decode mb_X_add 33 = .ok (.ifCond .gt 13, 3) := by decide +kernel
theorem dd_X_add_36 : decode mb_X_add 36 = .ok (.new 35, 3) := by decide +kernel
theorem dd_X_add_39 : decode mb_X_add 39 = .ok (.dup, 1) := by decide +kernel
theorem dd_X_add_40 : decode mb_X_add 40 = .ok (.ldc 46, 2) := by decide +kernel
theorem dd_X_add_42 : decode mb_X_add 42 = .ok (.invokespecial 39, 3) := by decide +kernel
theorem dd_X_add_45 : decode mb_X_add 45 = .ok (.athrow, 1) := by decide +kernel
theorem dd_X_add_46 : decode mb_X_add 46 = .ok (.aload_n 0, 1) := by decide +kernel
theorem dd_X_add_47 : decode mb_X_add 47 = .ok (.getfield 10, 3) := by decide +kernel
theorem dd_X_add_50 : decode mb_X_add 50 = .ok (.lload_n 1, 1) := by decide +kernel
theorem dd_X_add_51 : decode mb_X_add 51 = .ok (.lload_n 3, 1) := by decide +kernel
theorem dd_X_add_52 : decode mb_X_add 52 = .ok (.invokevirtual 48, 3) := by decide +kernel
theorem dd_X_add_55 : decode mb_X_add 55 = .ok (.ifCond .ne 13, 3) := by decide +kernel
theorem dd_X_add_58 : decode mb_X_add 58 = .ok (.new 52, 3) := by decide +kernel
theorem dd_X_add_61 : decode mb_X_add 61 = .ok (.dup, 1) := by decide +kernel
theorem dd_X_add_62 : decode mb_X_add 62 = .ok (.ldc 54, 2) := by decide +kernel
theorem dd_X_add_64 : decode mb_X_add 64 = .ok (.invokespecial 56, 3) := by decide +kernel
theorem dd_X_add_67 : decode mb_X_add 67 = .ok (.athrow, 1) := by decide +kernel
theorem dd_X_add_68 : decode mb_X_add 68 = .ok (.aload_n 0, 1) := by decide +kernel
theorem dd_X_add_69 : decode mb_X_add 69 = .ok (.getfield 10, 3) := by decide +kernel
theorem dd_X_add_72 : decode mb_X_add 72 = .ok (.invokevirtual 57, 3) := by decide +kernel
theorem dd_X_add_75 : decode mb_X_add 75 = .ok (.ireturn, 1) := by decide +kernel
theorem dd_X_keep_0 : decode mb_X_keep 0 = .ok (.aload_n 0, 1) := by decide +kernel
theorem dd_X_keep_1 : decode mb_X_keep 1 = .ok (.getfield 10, 3) := by decide +kernel
theorem dd_X_keep_4 : decode mb_X_keep 4 = .ok (.invokevirtual 57, 3) := by decide +kernel
theorem dd_X_keep_7 : decode mb_X_keep 7 = .ok (.istore_n 2, 1) := by decide +kernel
theorem dd_X_keep_8 : decode mb_X_keep 8 = .ok (.iload_n 1, 1) := by decide +kernel
theorem dd_X_keep_9 : decode mb_X_keep 9 = .ok (.ifCond .lt 8, 3) := by decide +kernel
theorem dd_X_keep_12 : decode mb_X_keep 12 = .ok (.iload_n 1, 1) := by decide +kernel
theorem dd_X_keep_13 : decode mb_X_keep 13 = .ok (.iload_n 2, 1) := by decide +kernel
theorem dd_X_keep_14 : decode mb_X_keep 14 = .ok (.if_icmp .le 13, 3) := by decide +kernel
theorem dd_X_keep_17 : decode mb_X_keep 17 = .ok (.new 35, 3) := by decide +kernel
theorem dd_X_keep_20 : decode mb_X_keep 20 = .ok (.dup, 1) := by decide +kernel
theorem dd_X_keep_21 : decode mb_X_keep 21 = .ok (.ldc 61, 2) := by decide +kernel
theorem dd_X_keep_23 : decode mb_X_keep 23 = .ok (.invokespecial 39, 3) := by decide +kernel
theorem dd_X_keep_26 : decode mb_X_keep 26 = .ok (.athrow, 1) := by decide +kernel
theorem dd_X_keep_27 : decode mb_X_keep 27 = .ok (.aload_n 0, 1) := by decide +kernel
theorem dd_X_keep_28 : decode mb_X_keep 28 = .ok (.getfield 10, 3) := by decide +kernel
theorem dd_X_keep_31 : decode mb_X_keep 31 = .ok (.iload_n 1, 1) := by decide +kernel
theorem dd_X_keep_32 : decode mb_X_keep 32 = .ok (.invokevirtual 63, 3) := by decide +kernel
theorem dd_X_keep_35 : decode mb_X_keep 35 = .ok (.iload_n 2, 1) := by decide +kernel
theorem dd_X_keep_36 : decode mb_X_keep 36 = .ok (.iload_n 1, 1) := by decide +kernel
theorem dd_X_keep_37 : decode mb_X_keep 37 = .ok (.isub, 1) := by decide +kernel
theorem dd_X_keep_38 : decode mb_X_keep 38 = .ok (.ireturn, 1) := by decide +kernel
theorem dd_X_pack_0 : decode mb_X_pack 0 = .ok (.aload_n 0, 1) := by decide +kernel
theorem dd_X_pack_1 : decode mb_X_pack 1 = .ok (.getfield 26, 3) := by decide +kernel
theorem dd_X_pack_4 : decode mb_X_pack 4 = .ok (.iconst 0, 1) := by decide +kernel
theorem dd_X_pack_5 : decode mb_X_pack 5 = .ok (.invokevirtual 67, 3) := by decide +kernel
theorem dd_X_pack_8 : decode mb_X_pack 8 = .ok (.new 68, 3) := by decide +kernel
theorem dd_X_pack_11 : decode mb_X_pack 11 = .ok (.dup, 1) := by decide +kernel
theorem dd_X_pack_12 : decode mb_X_pack 12 = .ok (.aload_n 0, 1) := by decide +kernel
theorem dd_X_pack_13 : decode mb_X_pack 13 = .ok (.getfield 26, 3) := by decide +kernel
theorem dd_X_pack_16 : decode mb_X_pack 16 = .ok (.invokespecial 70, 3) := by decide +kernel
theorem dd_X_pack_19 : decode mb_X_pack 19 = .ok (.aload_n 0, 1) := by decide +kernel
theorem dd_X_pack_20 : decode mb_X_pack 20 = .ok (.getfield 10, 3) := by decide +kernel
theorem dd_X_pack_23 : decode mb_X_pack 23 = .ok (.invokevirtual 73, 3) := by decide +kernel
theorem dd_X_pack_26 : decode mb_X_pack 26 = .ok (.ifCond .ne 13, 3) := by decide +kernel
theorem dd_X_pack_29 : decode mb_X_pack 29 = .ok (.new 52, 3) := by decide +kernel
theorem dd_X_pack_32 : decode mb_X_pack 32 = .ok (.dup, 1) := by decide +kernel
theorem dd_X_pack_33 : decode mb_X_pack 33 = .ok (.ldc 77, 2) := by decide +kernel
theorem dd_X_pack_35 : decode mb_X_pack 35 = .ok (.invokespecial 56, 3) := by decide +kernel
theorem dd_X_pack_38 : decode mb_X_pack 38 = .ok (.athrow, 1) := by decide +kernel
theorem dd_X_pack_39 : decode mb_X_pack 39 = .ok (.aload_n 0, 1) := by decide +kernel
theorem dd_X_pack_40 : decode mb_X_pack 40 = .ok (.getfield 22, 3) := by decide +kernel
theorem dd_X_pack_43 : decode mb_X_pack 43 = .ok (.astore_n 1, 1) := by decide +kernel
theorem dd_X_pack_44 : decode mb_X_pack 44 = .ok (.aload_n 0, 1) := by decide +kernel
theorem dd_X_pack_45 : decode mb_X_pack 45 = .ok (.aload_n 0, 1) := by decide +kernel
theorem dd_X_pack_46 : decode mb_X_pack 46 = .ok (.getfield 26, 3) := by decide +kernel
theorem dd_X_pack_49 : decode mb_X_pack 49 = .ok (.putfield 22, 3) := by decide +kernel
theorem dd_X_pack_52 : decode mb_X_pack 52 = .ok (.aload_n 0, 1) := by decide +kernel
theorem dd_X_pack_53 : decode mb_X_pack 53 = .ok (.aload_n 1, 1) := by decide +kernel
theorem dd_X_pack_54 : decode mb_X_pack 54 = .ok (.putfield 26, 3) := by decide +kernel
theorem dd_X_pack_57 : decode mb_X_pack 57 = .ok (.aload_n 0, 1) := by decide +kernel
theorem dd_X_pack_58 : decode mb_X_pack 58 = .ok (.getfield 22, 3) := by decide +kernel
theorem dd_X_pack_61 : decode mb_X_pack 61 = .ok (.invokevirtual 79, 3) := by decide +kernel
theorem dd_X_pack_64 : decode mb_X_pack 64 = .ok (.ireturn, 1) := by decide +kernel
theorem dd_X_unpack_0 : decode mb_X_unpack 0 = .ok (.iload_n 1, 1) := by decide +kernel
theorem dd_X_unpack_1 : decode mb_X_unpack 1 = .ok (.ifCond .lt 10, 3) := by decide +kernel
theorem dd_X_unpack_4 : decode mb_X_unpack 4 = .ok (.iload_n 1, 1) := by decide +kernel
theorem dd_X_unpack_5 : decode mb_X_unpack 5 = .ok (.sipush 3000, 3) := by decide +kernel
theorem dd_X_unpack_8 : decode mb_X_unpack 8 = .ok (.if_icmp .le 13, 3) := by decide +kernel
theorem dd_X_unpack_11 : decode mb_X_unpack 11 = .ok (.new 35, 3) := by decide +kernel
theorem dd_X_unpack_14 : decode mb_X_unpack 14 = .ok (.dup, 1) := by decide +kernel
theorem dd_X_unpack_15 : decode mb_X_unpack 15 = .ok (.ldc 80, 2) := by decide +kernel
theorem dd_X_unpack_17 : decode mb_X_unpack 17 = .ok (.invokespecial 39, 3) := by decide +kernel
theorem dd_X_unpack_20 : decode mb_X_unpack 20 = .ok (.athrow, 1) := by decide +kernel
theorem dd_X_unpack_21 : decode mb_X_unpack 21 = .ok (.aload_n 0, 1) := by decide +kernel
theorem dd_X_unpack_22 : decode mb_X_unpack 22 = .ok (.getfield 16, 3) := by decide +kernel
theorem dd_X_unpack_25 : decode mb_X_unpack 25 = .ok (.iconst 0, 1) := by decide +kernel
theorem dd_X_unpack_26 : decode mb_X_unpack 26 = .ok (.invokevirtual 63, 3) := by decide +kernel
theorem dd_X_unpack_29 : decode mb_X_unpack 29 = .ok (.new 82, 3) := by decide +kernel
theorem dd_X_unpack_32 : decode mb_X_unpack 32 = .ok (.dup, 1) := by decide +kernel
theorem dd_X_unpack_33 : decode mb_X_unpack 33 = .ok (.aload_n 0, 1) := by decide +kernel
theorem dd_X_unpack_34 : decode mb_X_unpack 34 = .ok (.getfield 22, 3) := by decide +kernel
theorem dd_X_unpack_37 : decode mb_X_unpack 37 = .ok (.invokespecial 84, 3) := by decide +kernel
theorem dd_X_unpack_40 : decode mb_X_unpack 40 = .ok (.astore_n 2, 1) := by decide +kernel
theorem dd_X_unpack_41 : decode mb_X_unpack 41 = .ok (.aload_n 2, 1) := by decide +kernel
theorem dd_X_unpack_42 : decode mb_X_unpack 42 = .ok (.iload_n 1, 1) := by decide +kernel
theorem dd_X_unpack_43 : decode mb_X_unpack 43 = .ok (.aload_n 0, 1) := by decide +kernel
theorem dd_X_unpack_44 : decode mb_X_unpack 44 = .ok (.getfield 16, 3) := by decide +kernel
theorem dd_X_unpack_47 : decode mb_X_unpack 47 = .ok (.invokevirtual 85, 3) := by decide +kernel
theorem dd_X_unpack_50 : decode mb_X_unpack 50 = .ok (.istore_n 3, 1) := by decide +kernel
theorem dd_X_unpack_51 : decode mb_X_unpack 51 = .ok (.aload_n 0, 1) := by decide +kernel
theorem dd_X_unpack_52 : decode mb_X_unpack 52 = .ok (.aload_n 2, 1) := by decide +kernel
theorem dd_X_unpack_53 : decode mb_X_unpack 53 = .ok (.invokevirtual 89, 3) := by decide +kernel
theorem dd_X_unpack_56 : decode mb_X_unpack 56 = .ok (.putfield 29, 3) := by decide +kernel
theorem dd_X_unpack_59 : decode mb_X_unpack 59 = .ok (.iload_n 3, 1) := by decide +kernel
theorem dd_X_unpack_60 : decode mb_X_unpack 60 = .ok (.ifCond .ne 5, 3) := by decide +kernel
theorem dd_X_unpack_63 : decode mb_X_unpack 63 = .ok (.iconst (-1), 1) := by decide +kernel
theorem dd_X_unpack_64 : decode mb_X_unpack 64 = .ok (.ireturn, 1) := by decide +kernel
theorem dd_X_unpack_65 : decode mb_X_unpack 65 = .ok (.aload_n 0, 1) := by decide +kernel
theorem dd_X_unpack_66 : decode mb_X_unpack 66 = .ok (.getfield 10, 3) := by decide +kernel
theorem dd_X_unpack_69 : decode mb_X_unpack 69 = .ok (.astore 4, 2) := by decide +kernel
theorem dd_X_unpack_71 : decode mb_X_unpack 71 = .ok (.aload_n 0, 1) := by decide +kernel
theorem dd_X_unpack_72 : decode mb_X_unpack 72 = .ok (.aload_n 0, 1) := by decide +kernel
theorem dd_X_unpack_73 : decode mb_X_unpack 73 = .ok (.getfield 16, 3) := by decide +kernel
theorem dd_X_unpack_76 : decode mb_X_unpack 76 = .ok (.putfield 10, 3) := by decide +kernel
theorem dd_X_unpack_79 : decode mb_X_unpack 79 = .ok (.aload_n 0, 1) := by decide +kernel
theorem dd_X_unpack_80 : decode mb_X_unpack 80 = .ok (.aload 4, 2) := by decide +kernel
theorem dd_X_unpack_82 : decode mb_X_unpack 82 = .ok (.putfield 16, 3) := by decide +kernel
theorem dd_X_unpack_85 : decode mb_X_unpack 85 = .ok (.aload_n 0, 1) := by decide +kernel
theorem dd_X_unpack_86 : decode mb_X_unpack 86 = .ok (.getfield 29, 3) := by decide +kernel
theorem dd_X_unpack_89 : decode mb_X_unpack 89 = .ok (.ireturn, 1) := by decide +kernel
theorem dd_X_count_0 : decode mb_X_count 0 = .ok (.iload_n 1, 1) := by decide +kernel
theorem dd_X_count_1 : decode mb_X_count 1 = .ok (.ifCond .ne 11, 3) := by decide +kernel
theorem dd_X_count_4 : decode mb_X_count 4 = .ok (.aload_n 0, 1) := by decide +kernel
theorem dd_X_count_5 : decode mb_X_count 5 = .ok (.getfield 10, 3) := by decide +kernel
theorem dd_X_count_8 : decode mb_X_count 8 = .ok (.invokevirtual 57, 3) := by decide +kernel
theorem dd_X_count_11 : decode mb_X_count 11 = .ok (.ireturn, 1) := by decide +kernel
theorem dd_X_count_12 : decode mb_X_count 12 = .ok (.iload_n 1, 1) := by decide +kernel
theorem dd_X_count_13 : decode mb_X_count 13 = .ok (.iconst 1, 1) := by decide +kernel
theorem dd_X_count_14 : decode mb_X_count 14 = .ok (.if_icmp .ne 11, 3) := by decide +kernel
theorem dd_X_count_17 : decode mb_X_count 17 = .ok (.aload_n 0, 1) := by decide +kernel
theorem dd_X_count_18 : decode mb_X_count 18 = .ok (.getfield 22, 3) := by decide +kernel
theorem dd_X_count_21 : decode mb_X_count 21 = .ok (.invokevirtual 79, 3) := by decide +kernel
theorem dd_X_count_24 : decode mb_X_count 24 = .ok (.ireturn, 1) := by decide +kernel
theorem dd_X_count_25 : decode mb_X_count 25 = .ok (.new 35, 3) := by decide +kernel
theorem dd_X_count_28 : decode mb_X_count 28 = .ok (.dup, 1) := by decide +kernel
theorem dd_X_count_29 : decode mb_X_count 29 = .ok (.ldc 92, 2) := by decide +kernel
theorem dd_X_count_31 : decode mb_X_count 31 = .ok (.invokespecial 39, 3) := by decide +kernel
theorem dd_X_count_34 : decode mb_X_count 34 = .ok (.athrow, 1) := by decide +kernel
theorem dd_X_time_0 : decode mb_X_time 0 = .ok (.aload_n 0, 1) := by decide +kernel
theorem dd_X_time_1 : decode mb_X_time 1 = .ok (.getfield 10, 3) := by decide +kernel
theorem dd_X_time_4 : decode mb_X_time 4 = .ok (.iload_n 1, 1) := by decide +kernel
theorem dd_X_time_5 : decode mb_X_time 5 = .ok (.invokevirtual 94, 3) := by decide +kernel
theorem dd_X_time_8 : decode mb_X_time 8 = .ok (.lreturn, 1) := by decide +kernel
theorem dd_X_value_0 : decode mb_X_value 0 = .ok (.aload_n 0, 1) := by decide +kernel
theorem dd_X_value_1 : decode mb_X_value 1 = .ok (.getfield 10, 3) := by decide +kernel
theorem dd_X_value_4 : decode mb_X_value 4 = .ok (.iload_n 1, 1) := by decide +kernel
theorem dd_X_value_5 : decode mb_X_value 5 = .ok (.invokevirtual 98, 3) := by decide +kernel
theorem dd_X_value_8 : decode mb_X_value 8 = .ok (.lreturn, 1) := by decide +kernel
theorem dd_X_bit_0 : decode mb_X_bit 0 = .ok (.aload_n 0, 1) := by decide +kernel
theorem dd_X_bit_1 : decode mb_X_bit 1 = .ok (.getfield 22, 3) := by decide +kernel
theorem dd_X_bit_4 : decode mb_X_bit 4 = .ok (.iload_n 1, 1) := by decide +kernel
theorem dd_X_bit_5 : decode mb_X_bit 5 = .ok (.invokevirtual 101, 3) := by decide +kernel
theorem dd_X_bit_8 : decode mb_X_bit 8 = .ok (.ireturn, 1) := by decide +kernel
theorem dd_X_flip_0 : decode mb_X_flip 0 = .ok (.aload_n 0, 1) := by decide +kernel
theorem dd_X_flip_1 : decode mb_X_flip 1 = .ok (.getfield 22, 3) := by decide +kernel
theorem dd_X_flip_4 : decode mb_X_flip 4 = .ok (.iload_n 1, 1) := by decide +kernel
theorem dd_X_flip_5 : decode mb_X_flip 5 = .ok (.invokevirtual 105, 3) := by decide +kernel
theorem dd_X_flip_8 : decode mb_X_flip 8 = .ok (.return_, 1) := by decide +kernel
theorem dd_X_put_0 : decode mb_X_put 0 = .ok (.iload_n 3, 1) := by decide +kernel
theorem dd_X_put_1 : decode mb_X_put 1 = .ok (.ifCond .lt 9, 3) := by decide +kernel
theorem dd_X_put_4 : decode mb_X_put 4 = .ok (.iload_n 3, 1) := by decide +kernel
theorem dd_X_put_5 : decode mb_X_put 5 = .ok (.bipush 64, 2) := by decide +kernel
theorem dd_X_put_7 : decode mb_X_put 7 = .ok (.if_icmp .le 13, 3) := by decide +kernel
theorem dd_X_put_10 : decode mb_X_put 10 = .ok (.new 35, 3) := by decide +kernel
theorem dd_X_put_13 : decode mb_X_put 13 = .ok (.dup, 1) := by decide +kernel
theorem dd_X_put_14 : decode mb_X_put 14 = .ok (.ldc 108, 2) := by decide +kernel
theorem dd_X_put_16 : decode mb_X_put 16 = .ok (.invokespecial 39, 3) := by decide +kernel
theorem dd_X_put_19 : decode mb_X_put 19 = .ok (.athrow, 1) := by decide +kernel
theorem dd_X_put_20 : decode mb_X_put 20 = .ok (.iload_n 3, 1) := by decide +kernel
theorem dd_X_put_21 : decode mb_X_put 21 = .ok (.bipush 64, 2) := by decide +kernel
theorem dd_X_put_23 : decode mb_X_put 23 = .ok (.if_icmp .ge 21, 3) := by decide +kernel
theorem dd_X_put_26 : decode mb_X_put 26 = .ok (.lload_n 1, 1) := by decide +kernel
theorem dd_X_put_27 : decode mb_X_put 27 = .ok (.iload_n 3, 1) := by decide +kernel
theorem dd_X_put_28 : decode mb_X_put 28 = .ok (.lushr, 1) := by decide +kernel
theorem dd_X_put_29 : decode mb_X_put 29 = .ok (.lconst 0, 1) := by decide +kernel
theorem dd_X_put_30 : decode mb_X_put 30 = .ok (.lcmp, 1) := by decide +kernel
theorem dd_X_put_31 : decode mb_X_put 31 = .ok (.ifCond .eq 13, 3) := by decide +kernel
theorem dd_X_put_34 : decode mb_X_put 34 = .ok (.new 35, 3) := by decide +kernel
theorem dd_X_put_37 : decode mb_X_put 37 = .ok (.dup, 1) := by decide +kernel
theorem dd_X_put_38 : decode mb_X_put 38 = .ok (.ldc 110, 2) := by decide +kernel
theorem dd_X_put_40 : decode mb_X_put 40 = .ok (.invokespecial 39, 3) := by decide +kernel
theorem dd_X_put_43 : decode mb_X_put 43 = .ok (.athrow, 1) := by decide +kernel
theorem dd_X_put_44 : decode mb_X_put 44 = .ok (.aload_n 0, 1) := by decide +kernel
theorem dd_X_put_45 : decode mb_X_put 45 = .ok (.getfield 22, 3) := by decide +kernel
theorem dd_X_put_48 : decode mb_X_put 48 = .ok (.lload_n 1, 1) := by decide +kernel
theorem dd_X_put_49 : decode mb_X_put 49 = .ok (.iload_n 3, 1) := by decide +kernel
theorem dd_X_put_50 : decode mb_X_put 50 = .ok (.invokevirtual 112, 3) := by decide +kernel
theorem dd_X_put_53 : decode mb_X_put 53 = .ok (.ifCond .ne 13, 3) := by decide +kernel
theorem dd_X_put_56 : decode mb_X_put 56 = .ok (.new 52, 3) := by decide +kernel
theorem dd_X_put_59 : decode mb_X_put 59 = .ok (.dup, 1) := by decide +kernel
theorem dd_X_put_60 : decode mb_X_put 60 = .ok (.ldc 77, 2) := by decide +kernel
theorem dd_X_put_62 : decode mb_X_put 62 = .ok (.invokespecial 56, 3) := by decide +kernel
theorem dd_X_put_65 : decode mb_X_put 65 = .ok (.athrow, 1) := by decide +kernel
theorem dd_X_put_66 : decode mb_X_put 66 = .ok (.aload_n 0, 1) := by decide +kernel
theorem dd_X_put_67 : decode mb_X_put 67 = .ok (.getfield 22, 3) := by decide +kernel
theorem dd_X_put_70 : decode mb_X_put 70 = .ok (.invokevirtual 79, 3) := by decide +kernel
theorem dd_X_put_73 : decode mb_X_put 73 = .ok (.ireturn, 1) := by decide +kernel
theorem dd_X_cut_0 : decode mb_X_cut 0 = .ok (.iload_n 1, 1) := by decide +kernel
theorem dd_X_cut_1 : decode mb_X_cut 1 = .ok (.ifCond .lt 14, 3) := by decide +kernel
theorem dd_X_cut_4 : decode mb_X_cut 4 = .ok (.iload_n 1, 1) := by decide +kernel
theorem dd_X_cut_5 : decode mb_X_cut 5 = .ok (.aload_n 0, 1) := by decide +kernel
theorem dd_X_cut_6 : decode mb_X_cut 6 = .ok (.getfield 22, 3) := by decide +kernel
theorem dd_X_cut_9 : decode mb_X_cut 9 = .ok (.invokevirtual 79, 3) := by decide +kernel
theorem dd_X_cut_12 : decode mb_X_cut 12 = .ok (.if_icmp .le 13, 3) := by decide +kernel
theorem dd_X_cut_15 : decode mb_X_cut 15 = .ok (.new 35, 3) := by decide +kernel
theorem dd_X_cut_18 : decode mb_X_cut 18 = .ok (.dup, 1) := by decide +kernel
theorem dd_X_cut_19 : decode mb_X_cut 19 = .ok (.ldc 115, 2) := by decide +kernel
theorem dd_X_cut_21 : decode mb_X_cut 21 = .ok (.invokespecial 39, 3) := by decide +kernel
theorem dd_X_cut_24 : decode mb_X_cut 24 = .ok (.athrow, 1) := by decide +kernel
theorem dd_X_cut_25 : decode mb_X_cut 25 = .ok (.aload_n 0, 1) := by decide +kernel
theorem dd_X_cut_26 : decode mb_X_cut 26 = .ok (.getfield 22, 3) := by decide +kernel
theorem dd_X_cut_29 : decode mb_X_cut 29 = .ok (.iload_n 1, 1) := by decide +kernel
theorem dd_X_cut_30 : decode mb_X_cut 30 = .ok (.invokevirtual 67, 3) := by decide +kernel
theorem dd_X_cut_33 : decode mb_X_cut 33 = .ok (.return_, 1) := by decide +kernel
theorem dd_L_add_0 : decode mb_L_add 0 = .ok (.aload 5, 2) := by decide +kernel
theorem dd_L_add_2 : decode mb_L_add 2 = .ok (.iconst 0, 1) := by decide +kernel
theorem dd_L_add_3 : decode mb_L_add 3 = .ok (.aload_n 0, 1) := by decide +kernel
theorem dd_L_add_4 : decode mb_L_add 4 = .ok (.lload_n 1, 1) := by decide +kernel
theorem dd_L_add_5 : decode mb_L_add 5 = .ok (.lload_n 3, 1) := by decide +kernel
theorem dd_L_add_6 : decode mb_L_add 6 = .ok (.invokevirtual 7, 3) := by decide +kernel
theorem dd_L_add_9 : decode mb_L_add 9 = .ok (.i2l, 1) := by decide +kernel
theorem dd_L_add_10 : decode mb_L_add 10 = .ok (.lastore, 1) := by decide +kernel
theorem dd_L_add_11 : decode mb_L_add 11 = .ok (.goto 11, 3) := by decide +kernel
theorem dd_L_add_14 : decode mb_L_add 14 = .ok (.astore 6, 2) := by decide +kernel
theorem dd_L_add_16 : decode mb_L_add 16 = .ok (.iconst 1, 1) := by decide +kernel
theorem dd_L_add_17 : decode mb_L_add 17 = .ok (.ireturn, 1) := by decide +kernel
theorem dd_L_add_18 : decode mb_L_add 18 = .ok (.astore 6, 2) := by decide +kernel
theorem dd_L_add_20 : decode mb_L_add 20 = .ok (.iconst 2, 1) := by decide +kernel
theorem dd_L_add_21 : decode mb_L_add 21 = .ok (.ireturn, 1) := by decide +kernel
theorem dd_L_add_22 : decode mb_L_add 22 = .ok (.iconst 0, 1) := by decide +kernel
theorem dd_L_add_23 : decode mb_L_add 23 = .ok (.ireturn, 1) := by decide +kernel
theorem dd_L_keep_0 : decode mb_L_keep 0 = .ok (.aload_n 2, 1) := by decide +kernel
theorem dd_L_keep_1 : decode mb_L_keep 1 = .ok (.iconst 0, 1) := by decide +kernel
theorem dd_L_keep_2 : decode mb_L_keep 2 = .ok (.aload_n 0, 1) := by decide +kernel
theorem dd_L_keep_3 : decode mb_L_keep 3 = .ok (.iload_n 1, 1) := by decide +kernel
theorem dd_L_keep_4 : decode mb_L_keep 4 = .ok (.invokevirtual 17, 3) := by decide +kernel
theorem dd_L_keep_7 : decode mb_L_keep 7 = .ok (.i2l, 1) := by decide +kernel
theorem dd_L_keep_8 : decode mb_L_keep 8 = .ok (.lastore, 1) := by decide +kernel
theorem dd_L_keep_9 : decode mb_L_keep 9 = .ok (.goto 6, 3) := by decide +kernel
theorem dd_L_keep_12 : decode mb_L_keep 12 = .ok (.astore_n 3, 1) := by decide +kernel
theorem dd_L_keep_13 : decode mb_L_keep 13 = .ok (.iconst 1, 1) := by decide +kernel
theorem dd_L_keep_14 : decode mb_L_keep 14 = .ok (.ireturn, 1) := by decide +kernel
theorem dd_L_keep_15 : decode mb_L_keep 15 = .ok (.iconst 0, 1) := by decide +kernel
theorem dd_L_keep_16 : decode mb_L_keep 16 = .ok (.ireturn, 1) := by decide +kernel
theorem dd_L_pack_0 : decode mb_L_pack 0 = .ok (.aload_n 1, 1) := by decide +kernel
theorem dd_L_pack_1 : decode mb_L_pack 1 = .ok (.iconst 0, 1) := by decide +kernel
theorem dd_L_pack_2 : decode mb_L_pack 2 = .ok (.aload_n 0, 1) := by decide +kernel
theorem dd_L_pack_3 : decode mb_L_pack 3 = .ok (.invokevirtual 21, 3) := by decide +kernel
theorem dd_L_pack_6 : decode mb_L_pack 6 = .ok (.i2l, 1) := by decide +kernel
theorem dd_L_pack_7 : decode mb_L_pack 7 = .ok (.lastore, 1) := by decide +kernel
theorem dd_L_pack_8 : decode mb_L_pack 8 = .ok (.goto 6, 3) := by decide +kernel
theorem dd_L_pack_11 : decode mb_L_pack 11 = .ok (.astore_n 2, 1) := by decide +kernel
theorem dd_L_pack_12 : decode mb_L_pack 12 = .ok (.iconst 1, 1) := by decide +kernel
theorem dd_L_pack_13 : decode mb_L_pack 13 = .ok (.ireturn, 1) := by decide +kernel
theorem dd_L_pack_14 : decode mb_L_pack 14 = .ok (.iconst 0, 1) := by decide +kernel
theorem dd_L_pack_15 : decode mb_L_pack 15 = .ok (.ireturn, 1) := by decide +kernel
theorem dd_L_unpack_0 : decode mb_L_unpack 0 = .ok (.aload_n 2, 1) := by decide +kernel
theorem dd_L_unpack_1 : decode mb_L_unpack 1 = .ok (.iconst 0, 1) := by decide +kernel
theorem dd_L_unpack_2 : decode mb_L_unpack 2 = .ok (.aload_n 0, 1) := by decide +kernel
theorem dd_L_unpack_3 : decode mb_L_unpack 3 = .ok (.iload_n 1, 1) := by decide +kernel
theorem dd_L_unpack_4 : decode mb_L_unpack 4 = .ok (.invokevirtual 25, 3) := by decide +kernel
theorem dd_L_unpack_7 : decode mb_L_unpack 7 = .ok (.i2l, 1) := by decide +kernel
theorem dd_L_unpack_8 : decode mb_L_unpack 8 = .ok (.lastore, 1) := by decide +kernel
theorem dd_L_unpack_9 : decode mb_L_unpack 9 = .ok (.goto 6, 3) := by decide +kernel
theorem dd_L_unpack_12 : decode mb_L_unpack 12 = .ok (.astore_n 3, 1) := by decide +kernel
theorem dd_L_unpack_13 : decode mb_L_unpack 13 = .ok (.iconst 1, 1) := by decide +kernel
theorem dd_L_unpack_14 : decode mb_L_unpack 14 = .ok (.ireturn, 1) := by decide +kernel
theorem dd_L_unpack_15 : decode mb_L_unpack 15 = .ok (.iconst 0, 1) := by decide +kernel
theorem dd_L_unpack_16 : decode mb_L_unpack 16 = .ok (.ireturn, 1) := by decide +kernel
theorem dd_L_count_0 : decode mb_L_count 0 = .ok (.aload_n 2, 1) := by decide +kernel
theorem dd_L_count_1 : decode mb_L_count 1 = .ok (.iconst 0, 1) := by decide +kernel
theorem dd_L_count_2 : decode mb_L_count 2 = .ok (.aload_n 0, 1) := by decide +kernel
theorem dd_L_count_3 : decode mb_L_count 3 = .ok (.iload_n 1, 1) := by decide +kernel
theorem dd_L_count_4 : decode mb_L_count 4 = .ok (.invokevirtual 28, 3) := by decide +kernel
theorem dd_L_count_7 : decode mb_L_count 7 = .ok (.i2l, 1) := by decide +kernel
theorem dd_L_count_8 : decode mb_L_count 8 = .ok (.lastore, 1) := by decide +kernel
theorem dd_L_count_9 : decode mb_L_count 9 = .ok (.goto 6, 3) := by decide +kernel
theorem dd_L_count_12 : decode mb_L_count 12 = .ok (.astore_n 3, 1) := by decide +kernel
theorem dd_L_count_13 : decode mb_L_count 13 = .ok (.iconst 1, 1) := by decide +kernel
theorem dd_L_count_14 : decode mb_L_count 14 = .ok (.ireturn, 1) := by decide +kernel
theorem dd_L_count_15 : decode mb_L_count 15 = .ok (.iconst 0, 1) := by decide +kernel
theorem dd_L_count_16 : decode mb_L_count 16 = .ok (.ireturn, 1) := by decide +kernel
theorem dd_L_time_0 : decode mb_L_time 0 = .ok (.aload_n 2, 1) := by decide +kernel
theorem dd_L_time_1 : decode mb_L_time 1 = .ok (.iconst 0, 1) := by decide +kernel
theorem dd_L_time_2 : decode mb_L_time 2 = .ok (.aload_n 0, 1) := by decide +kernel
theorem dd_L_time_3 : decode mb_L_time 3 = .ok (.iload_n 1, 1) := by decide +kernel
theorem dd_L_time_4 : decode mb_L_time 4 = .ok (.invokevirtual 31, 3) := by decide +kernel
theorem dd_L_time_7 : decode mb_L_time 7 = .ok (.lastore, 1) := by decide +kernel
theorem dd_L_time_8 : decode mb_L_time 8 = .ok (.goto 6, 3) := by decide +kernel
theorem dd_L_time_11 : decode mb_L_time 11 = .ok (.astore_n 3, 1) := by decide +kernel
theorem dd_L_time_12 : decode mb_L_time 12 = .ok (.iconst 1, 1) := by decide +kernel
theorem dd_L_time_13 : decode mb_L_time 13 = .ok (.ireturn, 1) := by decide +kernel
theorem dd_L_time_14 : decode mb_L_time 14 = .ok (.iconst 0, 1) := by decide +kernel
theorem dd_L_time_15 : decode mb_L_time 15 = .ok (.ireturn, 1) := by decide +kernel
theorem dd_L_value_0 : decode mb_L_value 0 = .ok (.aload_n 2, 1) := by decide +kernel
theorem dd_L_value_1 : decode mb_L_value 1 = .ok (.iconst 0, 1) := by decide +kernel
theorem dd_L_value_2 : decode mb_L_value 2 = .ok (.aload_n 0, 1) := by decide +kernel
theorem dd_L_value_3 : decode mb_L_value 3 = .ok (.iload_n 1, 1) := by decide +kernel
theorem dd_L_value_4 : decode mb_L_value 4 = .ok (.invokevirtual 37, 3) := by decide +kernel
theorem dd_L_value_7 : decode mb_L_value 7 = .ok (.lastore, 1) := by decide +kernel
theorem dd_L_value_8 : decode mb_L_value 8 = .ok (.goto 6, 3) := by decide +kernel
theorem dd_L_value_11 : decode mb_L_value 11 = .ok (.astore_n 3, 1) := by decide +kernel
theorem dd_L_value_12 : decode mb_L_value 12 = .ok (.iconst 1, 1) := by decide +kernel
theorem dd_L_value_13 : decode mb_L_value 13 = .ok (.ireturn, 1) := by decide +kernel
theorem dd_L_value_14 : decode mb_L_value 14 = .ok (.iconst 0, 1) := by decide +kernel
theorem dd_L_value_15 : decode mb_L_value 15 = .ok (.ireturn, 1) := by decide +kernel
theorem dd_L_bit_0 : decode mb_L_bit 0 = .ok (.aload_n 2, 1) := by decide +kernel
theorem dd_L_bit_1 : decode mb_L_bit 1 = .ok (.iconst 0, 1) := by decide +kernel
theorem dd_L_bit_2 : decode mb_L_bit 2 = .ok (.aload_n 0, 1) := by decide +kernel
theorem dd_L_bit_3 : decode mb_L_bit 3 = .ok (.iload_n 1, 1) := by decide +kernel
theorem dd_L_bit_4 : decode mb_L_bit 4 = .ok (.invokevirtual 40, 3) := by decide +kernel
theorem dd_L_bit_7 : decode mb_L_bit 7 = .ok (.ifCond .eq 7, 3) := by decide +kernel
theorem dd_L_bit_10 : decode mb_L_bit 10 = .ok (.lconst 1, 1) := by decide +kernel
theorem dd_L_bit_11 : decode mb_L_bit 11 = .ok (.goto 4, 3) := by decide +kernel
theorem dd_L_bit_14 : decode mb_L_bit 14 = .ok (.lconst 0, 1) := by decide +kernel
theorem dd_L_bit_15 : decode mb_L_bit 15 = .ok (.lastore, 1) := by decide +kernel
theorem dd_L_bit_16 : decode mb_L_bit 16 = .ok (.goto 6, 3) := by decide +kernel
theorem dd_L_bit_19 : decode mb_L_bit 19 = .ok (.astore_n 3, 1) := by decide +kernel
theorem dd_L_bit_20 : decode mb_L_bit 20 = .ok (.iconst 1, 1) := by decide +kernel
theorem dd_L_bit_21 : decode mb_L_bit 21 = .ok (.ireturn, 1) := by decide +kernel
theorem dd_L_bit_22 : decode mb_L_bit 22 = .ok (.iconst 0, 1) := by decide +kernel
theorem dd_L_bit_23 : decode mb_L_bit 23 = .ok (.ireturn, 1) := by decide +kernel
theorem dd_L_flip_0 : decode mb_L_flip 0 = .ok (.aload_n 0, 1) := by decide +kernel
theorem dd_L_flip_1 : decode mb_L_flip 1 = .ok (.iload_n 1, 1) := by decide +kernel
theorem dd_L_flip_2 : decode mb_L_flip 2 = .ok (.invokevirtual 44, 3) := by decide +kernel
theorem dd_L_flip_5 : decode mb_L_flip 5 = .ok (.goto 6, 3) := by decide +kernel
theorem dd_L_flip_8 : decode mb_L_flip 8 = .ok (.astore_n 2, 1) := by decide +kernel
theorem dd_L_flip_9 : decode mb_L_flip 9 = .ok (.iconst 1, 1) := by decide +kernel
theorem dd_L_flip_10 : decode mb_L_flip 10 = .ok (.ireturn, 1) := by decide +kernel
theorem dd_L_flip_11 : decode mb_L_flip 11 = .ok (.iconst 0, 1) := by decide +kernel
theorem dd_L_flip_12 : decode mb_L_flip 12 = .ok (.ireturn, 1) := by decide +kernel
theorem dd_L_put_0 : decode mb_L_put 0 = .ok (.aload 4, 2) := by decide +kernel
theorem dd_L_put_2 : decode mb_L_put 2 = .ok (.iconst 0, 1) := by decide +kernel
theorem dd_L_put_3 : decode mb_L_put 3 = .ok (.aload_n 0, 1) := by decide +kernel
theorem dd_L_put_4 : decode mb_L_put 4 = .ok (.lload_n 1, 1) := by decide +kernel
theorem dd_L_put_5 : decode mb_L_put 5 = .ok (.iload_n 3, 1) := by decide +kernel
theorem dd_L_put_6 : decode mb_L_put 6 = .ok (.invokevirtual 48, 3) := by decide +kernel
theorem dd_L_put_9 : decode mb_L_put 9 = .ok (.i2l, 1) := by decide +kernel
theorem dd_L_put_10 : decode mb_L_put 10 = .ok (.lastore, 1) := by decide +kernel
theorem dd_L_put_11 : decode mb_L_put 11 = .ok (.goto 11, 3) := by decide +kernel
theorem dd_L_put_14 : decode mb_L_put 14 = .ok (.astore 5, 2) := by decide +kernel
theorem dd_L_put_16 : decode mb_L_put 16 = .ok (.iconst 1, 1) := by decide +kernel
theorem dd_L_put_17 : decode mb_L_put 17 = .ok (.ireturn, 1) := by decide +kernel
theorem dd_L_put_18 : decode mb_L_put 18 = .ok (.astore 5, 2) := by decide +kernel
theorem dd_L_put_20 : decode mb_L_put 20 = .ok (.iconst 2, 1) := by decide +kernel
theorem dd_L_put_21 : decode mb_L_put 21 = .ok (.ireturn, 1) := by decide +kernel
theorem dd_L_put_22 : decode mb_L_put 22 = .ok (.iconst 0, 1) := by decide +kernel
theorem dd_L_put_23 : decode mb_L_put 23 = .ok (.ireturn, 1) := by decide +kernel
theorem dd_L_cut_0 : decode mb_L_cut 0 = .ok (.aload_n 0, 1) := by decide +kernel
theorem dd_L_cut_1 : decode mb_L_cut 1 = .ok (.iload_n 1, 1) := by decide +kernel
theorem dd_L_cut_2 : decode mb_L_cut 2 = .ok (.invokevirtual 52, 3) := by decide +kernel
theorem dd_L_cut_5 : decode mb_L_cut 5 = .ok (.goto 6, 3) := by decide +kernel
theorem dd_L_cut_8 : decode mb_L_cut 8 = .ok (.astore_n 2, 1) := by decide +kernel
theorem dd_L_cut_9 : decode mb_L_cut 9 = .ok (.iconst 1, 1) := by decide +kernel
theorem dd_L_cut_10 : decode mb_L_cut 10 = .ok (.ireturn, 1) := by decide +kernel
theorem dd_L_cut_11 : decode mb_L_cut 11 = .ok (.iconst 0, 1) := by decide +kernel
theorem dd_L_cut_12 : decode mb_L_cut 12 = .ok (.ireturn, 1) := by decide +kernel
