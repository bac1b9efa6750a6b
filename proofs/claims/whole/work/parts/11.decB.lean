theorem dX7_init_0 : decode cX7_init 0 = .ok (.aload_n 0, 1) := by decide +kernel
theorem dX7_init_1 : decode cX7_init 1 = .ok (.invokespecial 5, 3) := by decide +kernel
theorem dX7_init_4 : decode cX7_init 4 = .ok (.aload_n 0, 1) := by decide +kernel
theorem dX7_init_5 : decode cX7_init 5 = .ok (.new 11, 3) := by decide +kernel
theorem dX7_init_8 : decode cX7_init 8 = .ok (.dup, 1) := by decide +kernel
theorem dX7_init_9 : decode cX7_init 9 = .ok (.invokespecial 13, 3) := by decide +kernel
theorem dX7_init_12 : decode cX7_init 12 = .ok (.putfield 14, 3) := by decide +kernel
theorem dX7_init_15 : decode cX7_init 15 = .ok (.aload_n 0, 1) := by decide +kernel
theorem dX7_init_16 : decode cX7_init 16 = .ok (.new 11, 3) := by decide +kernel
theorem dX7_init_19 : decode cX7_init 19 = .ok (.dup, 1) := by decide +kernel
theorem dX7_init_20 : decode cX7_init 20 = .ok (.invokespecial 13, 3) := by decide +kernel
theorem dX7_init_23 : decode cX7_init 23 = .ok (.putfield 18, 3) := by decide +kernel
theorem dX7_init_26 : decode cX7_init 26 = .ok (.aload_n 0, 1) := by decide +kernel
theorem dX7_init_27 : decode cX7_init 27 = .ok (.iconst 0, 1) := by decide +kernel
theorem dX7_init_28 : decode cX7_init 28 = .ok (.putfield 21, 3) := by decide +kernel
theorem dX7_init_31 : decode cX7_init 31 = .ok (.aload_n 0, 1) := by decide +kernel
theorem dX7_init_32 : decode cX7_init 32 = .ok (.new 25, 3) := by decide +kernel
theorem dX7_init_35 : decode cX7_init 35 = .ok (.dup, 1) := by decide +kernel
theorem dX7_init_36 : decode cX7_init 36 = .ok (.invokespecial 27, 3) := by decide +kernel
theorem dX7_init_39 : decode cX7_init 39 = .ok (.putfield 28, 3) := by decide +kernel
theorem dX7_init_42 : decode cX7_init 42 = .ok (.aload_n 0, 1) := by decide +kernel
theorem dX7_init_43 : decode cX7_init 43 = .ok (.new 32, 3) := by decide +kernel
theorem dX7_init_46 : decode cX7_init 46 = .ok (.dup, 1) := by decide +kernel
theorem dX7_init_47 : decode cX7_init 47 = .ok (.invokespecial 34, 3) := by decide +kernel
theorem dX7_init_50 : decode cX7_init 50 = .ok (.putfield 35, 3) := by decide +kernel
theorem dX7_init_53 : decode cX7_init 53 = .ok (.aload_n 0, 1) := by decide +kernel
theorem dX7_init_54 : decode cX7_init 54 = .ok (.bipush 6, 2) := by decide +kernel
theorem dX7_init_56 : decode cX7_init 56 = .ok (.anewarray 39, 3) := by decide +kernel
theorem dX7_init_59 : decode cX7_init 59 = .ok (.putfield 41, 3) := by decide +kernel
theorem dX7_init_62 : decode cX7_init 62 = .ok (.iconst 0, 1) := by decide +kernel
theorem dX7_init_63 : decode cX7_init 63 = .ok (.istore_n 1, 1) := by decide +kernel
theorem dX7_init_64 : decode cX7_init 64 = .ok (.iload_n 1, 1) := by decide +kernel
theorem dX7_init_65 : decode cX7_init 65 = .ok (.bipush 6, 2) := by decide +kernel
theorem dX7_init_67 : decode cX7_init 67 = .ok (.if_icmp .ge 22, 3) := by decide +kernel
theorem dX7_init_70 : decode cX7_init 70 = .ok (.aload_n 0, 1) := by decide +kernel
theorem dX7_init_71 : decode cX7_init 71 = .ok (.getfield 41, 3) := by decide +kernel
theorem dX7_init_74 : decode cX7_init 74 = .ok (.iload_n 1, 1) := by decide +kernel
theorem dX7_init_75 : decode cX7_init 75 = .ok (.new 39, 3) := by decide +kernel
theorem dX7_init_78 : decode cX7_init 78 = .ok (.dup, 1) := by decide +kernel
theorem dX7_init_79 : decode cX7_init 79 = .ok (.invokespecial 45, 3) := by decide +kernel
theorem dX7_init_82 : decode cX7_init 82 = .ok (.aastore, 1) := by decide +kernel
theorem dX7_init_83 : decode cX7_init 83 = .ok (.iinc 1 1, 3) := by decide +kernel
theorem dX7_init_86 : decode cX7_init 86 = .ok (.goto (-22), 3) := by decide +kernel
theorem dX7_init_89 : decode cX7_init 89 = .ok (.return_, 1) := by decide +kernel
theorem dX7_corner_0 : decode cX7_corner 0 = .ok (.iload_n 1, 1) := by decide +kernel
theorem dX7_corner_1 : decode cX7_corner 1 = .ok (.invokestatic 46, 3) := by decide +kernel
theorem dX7_corner_4 : decode cX7_corner 4 = .ok (.ifCond .ne 5, 3) := by decide +kernel
theorem dX7_corner_7 : decode cX7_corner 7 = .ok (.iconst (-1), 1) := by decide +kernel
theorem dX7_corner_8 : decode cX7_corner 8 = .ok (.ireturn, 1) := by decide +kernel
theorem dX7_corner_9 : decode cX7_corner 9 = .ok (.iload_n 2, 1) := by decide +kernel
theorem dX7_corner_10 : decode cX7_corner 10 = .ok (.invokestatic 50, 3) := by decide +kernel
theorem dX7_corner_13 : decode cX7_corner 13 = .ok (.ifCond .ne 6, 3) := by decide +kernel
theorem dX7_corner_16 : decode cX7_corner 16 = .ok (.bipush (-2), 2) := by decide +kernel
theorem dX7_corner_18 : decode cX7_corner 18 = .ok (.ireturn, 1) := by decide +kernel
theorem dX7_corner_19 : decode cX7_corner 19 = .ok (.aload_n 0, 1) := by decide +kernel
theorem dX7_corner_20 : decode cX7_corner 20 = .ok (.getfield 14, 3) := by decide +kernel
theorem dX7_corner_23 : decode cX7_corner 23 = .ok (.getfield 53, 3) := by decide +kernel
theorem dX7_corner_26 : decode cX7_corner 26 = .ok (.iload_n 1, 1) := by decide +kernel
theorem dX7_corner_27 : decode cX7_corner 27 = .ok (.invokestatic 57, 3) := by decide +kernel
theorem dX7_corner_30 : decode cX7_corner 30 = .ok (.istore_n 3, 1) := by decide +kernel
theorem dX7_corner_31 : decode cX7_corner 31 = .ok (.aload_n 0, 1) := by decide +kernel
theorem dX7_corner_32 : decode cX7_corner 32 = .ok (.getfield 14, 3) := by decide +kernel
theorem dX7_corner_35 : decode cX7_corner 35 = .ok (.iload_n 2, 1) := by decide +kernel
theorem dX7_corner_36 : decode cX7_corner 36 = .ok (.iconst 1, 1) := by decide +kernel
theorem dX7_corner_37 : decode cX7_corner 37 = .ok (.if_icmp .ne 17, 3) := by decide +kernel
theorem dX7_corner_40 : decode cX7_corner 40 = .ok (.aload_n 0, 1) := by decide +kernel
theorem dX7_corner_41 : decode cX7_corner 41 = .ok (.getfield 14, 3) := by decide +kernel
theorem dX7_corner_44 : decode cX7_corner 44 = .ok (.getfield 53, 3) := by decide +kernel
theorem dX7_corner_47 : decode cX7_corner 47 = .ok (.iconst 1, 1) := by decide +kernel
theorem dX7_corner_48 : decode cX7_corner 48 = .ok (.iload_n 1, 1) := by decide +kernel
theorem dX7_corner_49 : decode cX7_corner 49 = .ok (.ishl, 1) := by decide +kernel
theorem dX7_corner_50 : decode cX7_corner 50 = .ok (.ior, 1) := by decide +kernel
theorem dX7_corner_51 : decode cX7_corner 51 = .ok (.goto 16, 3) := by decide +kernel
theorem dX7_corner_54 : decode cX7_corner 54 = .ok (.aload_n 0, 1) := by decide +kernel
theorem dX7_corner_55 : decode cX7_corner 55 = .ok (.getfield 14, 3) := by decide +kernel
theorem dX7_corner_58 : decode cX7_corner 58 = .ok (.getfield 53, 3) := by decide +kernel
theorem dX7_corner_61 : decode cX7_corner 61 = .ok (.iconst 1, 1) := by decide +kernel
theorem dX7_corner_62 : decode cX7_corner 62 = .ok (.iload_n 1, 1) := by decide +kernel
theorem dX7_corner_63 : decode cX7_corner 63 = .ok (.ishl, 1) := by decide +kernel
theorem dX7_corner_64 : decode cX7_corner 64 = .ok (.iconst (-1), 1) := by decide +kernel
theorem dX7_corner_65 : decode cX7_corner 65 = .ok (.ixor, 1) := by decide +kernel
theorem dX7_corner_66 : decode cX7_corner 66 = .ok (.iand, 1) := by decide +kernel
theorem dX7_corner_67 : decode cX7_corner 67 = .ok (.putfield 53, 3) := by decide +kernel
theorem dX7_corner_70 : decode cX7_corner 70 = .ok (.iload_n 3, 1) := by decide +kernel
theorem dX7_corner_71 : decode cX7_corner 71 = .ok (.ireturn, 1) := by decide +kernel
theorem dX7_code_0 : decode cX7_code 0 = .ok (.iload_n 1, 1) := by decide +kernel
theorem dX7_code_1 : decode cX7_code 1 = .ok (.ifCond .lt 10, 3) := by decide +kernel
theorem dX7_code_4 : decode cX7_code 4 = .ok (.iload_n 1, 1) := by decide +kernel
theorem dX7_code_5 : decode cX7_code 5 = .ok (.sipush 256, 3) := by decide +kernel
theorem dX7_code_8 : decode cX7_code 8 = .ok (.if_icmp .lt 6, 3) := by decide +kernel
theorem dX7_code_11 : decode cX7_code 11 = .ok (.bipush (-2), 2) := by decide +kernel
theorem dX7_code_13 : decode cX7_code 13 = .ok (.ireturn, 1) := by decide +kernel
theorem dX7_code_14 : decode cX7_code 14 = .ok (.aload_n 0, 1) := by decide +kernel
theorem dX7_code_15 : decode cX7_code 15 = .ok (.getfield 14, 3) := by decide +kernel
theorem dX7_code_18 : decode cX7_code 18 = .ok (.getfield 53, 3) := by decide +kernel
theorem dX7_code_21 : decode cX7_code 21 = .ok (.istore_n 2, 1) := by decide +kernel
theorem dX7_code_22 : decode cX7_code 22 = .ok (.aload_n 0, 1) := by decide +kernel
theorem dX7_code_23 : decode cX7_code 23 = .ok (.getfield 14, 3) := by decide +kernel
theorem dX7_code_26 : decode cX7_code 26 = .ok (.iload_n 1, 1) := by decide +kernel
theorem dX7_code_27 : decode cX7_code 27 = .ok (.putfield 53, 3) := by decide +kernel
theorem dX7_code_30 : decode cX7_code 30 = .ok (.iload_n 2, 1) := by decide +kernel
theorem dX7_code_31 : decode cX7_code 31 = .ok (.ireturn, 1) := by decide +kernel
theorem dX7_move_0 : decode cX7_move 0 = .ok (.iload_n 1, 1) := by decide +kernel
theorem dX7_move_1 : decode cX7_move 1 = .ok (.invokestatic 61, 3) := by decide +kernel
theorem dX7_move_4 : decode cX7_move 4 = .ok (.ifCond .ne 5, 3) := by decide +kernel
theorem dX7_move_7 : decode cX7_move 7 = .ok (.iconst (-1), 1) := by decide +kernel
theorem dX7_move_8 : decode cX7_move 8 = .ok (.ireturn, 1) := by decide +kernel
theorem dX7_move_9 : decode cX7_move 9 = .ok (.aload_n 0, 1) := by decide +kernel
theorem dX7_move_10 : decode cX7_move 10 = .ok (.getfield 14, 3) := by decide +kernel
theorem dX7_move_13 : decode cX7_move 13 = .ok (.iload_n 1, 1) := by decide +kernel
theorem dX7_move_14 : decode cX7_move 14 = .ok (.aload_n 0, 1) := by decide +kernel
theorem dX7_move_15 : decode cX7_move 15 = .ok (.getfield 14, 3) := by decide +kernel
theorem dX7_move_18 : decode cX7_move 18 = .ok (.getfield 53, 3) := by decide +kernel
theorem dX7_move_21 : decode cX7_move 21 = .ok (.invokestatic 64, 3) := by decide +kernel
theorem dX7_move_24 : decode cX7_move 24 = .ok (.putfield 53, 3) := by decide +kernel
theorem dX7_move_27 : decode cX7_move 27 = .ok (.aload_n 0, 1) := by decide +kernel
theorem dX7_move_28 : decode cX7_move 28 = .ok (.getfield 14, 3) := by decide +kernel
theorem dX7_move_31 : decode cX7_move 31 = .ok (.getfield 53, 3) := by decide +kernel
theorem dX7_move_34 : decode cX7_move 34 = .ok (.ireturn, 1) := by decide +kernel
theorem dX7_becomes_0 : decode cX7_becomes 0 = .ok (.iload_n 1, 1) := by decide +kernel
theorem dX7_becomes_1 : decode cX7_becomes 1 = .ok (.ifCond .lt 8, 3) := by decide +kernel
theorem dX7_becomes_4 : decode cX7_becomes 4 = .ok (.iload_n 1, 1) := by decide +kernel
theorem dX7_becomes_5 : decode cX7_becomes 5 = .ok (.iconst 3, 1) := by decide +kernel
theorem dX7_becomes_6 : decode cX7_becomes 6 = .ok (.if_icmp .le 5, 3) := by decide +kernel
theorem dX7_becomes_9 : decode cX7_becomes 9 = .ok (.iconst (-1), 1) := by decide +kernel
theorem dX7_becomes_10 : decode cX7_becomes 10 = .ok (.ireturn, 1) := by decide +kernel
theorem dX7_becomes_11 : decode cX7_becomes 11 = .ok (.aload_n 0, 1) := by decide +kernel
theorem dX7_becomes_12 : decode cX7_becomes 12 = .ok (.getfield 14, 3) := by decide +kernel
theorem dX7_becomes_15 : decode cX7_becomes 15 = .ok (.iload_n 1, 1) := by decide +kernel
theorem dX7_becomes_16 : decode cX7_becomes 16 = .ok (.invokevirtual 69, 3) := by decide +kernel
theorem dX7_becomes_19 : decode cX7_becomes 19 = .ok (.aload_n 0, 1) := by decide +kernel
theorem dX7_becomes_20 : decode cX7_becomes 20 = .ok (.getfield 14, 3) := by decide +kernel
theorem dX7_becomes_23 : decode cX7_becomes 23 = .ok (.getfield 53, 3) := by decide +kernel
theorem dX7_becomes_26 : decode cX7_becomes 26 = .ok (.ireturn, 1) := by decide +kernel
theorem dX7_keep_0 : decode cX7_keep 0 = .ok (.aload_n 0, 1) := by decide +kernel
theorem dX7_keep_1 : decode cX7_keep 1 = .ok (.getfield 14, 3) := by decide +kernel
theorem dX7_keep_4 : decode cX7_keep 4 = .ok (.aload_n 0, 1) := by decide +kernel
theorem dX7_keep_5 : decode cX7_keep 5 = .ok (.getfield 14, 3) := by decide +kernel
theorem dX7_keep_8 : decode cX7_keep 8 = .ok (.getfield 53, 3) := by decide +kernel
theorem dX7_keep_11 : decode cX7_keep 11 = .ok (.putfield 73, 3) := by decide +kernel
theorem dX7_keep_14 : decode cX7_keep 14 = .ok (.aload_n 0, 1) := by decide +kernel
theorem dX7_keep_15 : decode cX7_keep 15 = .ok (.getfield 14, 3) := by decide +kernel
theorem dX7_keep_18 : decode cX7_keep 18 = .ok (.getfield 73, 3) := by decide +kernel
theorem dX7_keep_21 : decode cX7_keep 21 = .ok (.ireturn, 1) := by decide +kernel
theorem dX7_feed_0 : decode cX7_feed 0 = .ok (.iload_n 1, 1) := by decide +kernel
theorem dX7_feed_1 : decode cX7_feed 1 = .ok (.ifCond .lt 9, 3) := by decide +kernel
theorem dX7_feed_4 : decode cX7_feed 4 = .ok (.iload_n 1, 1) := by decide +kernel
theorem dX7_feed_5 : decode cX7_feed 5 = .ok (.bipush 127, 2) := by decide +kernel
theorem dX7_feed_7 : decode cX7_feed 7 = .ok (.if_icmp .le 6, 3) := by decide +kernel
theorem dX7_feed_10 : decode cX7_feed 10 = .ok (.bipush (-2), 2) := by decide +kernel
theorem dX7_feed_12 : decode cX7_feed 12 = .ok (.ireturn, 1) := by decide +kernel
theorem dX7_feed_13 : decode cX7_feed 13 = .ok (.aload_n 0, 1) := by decide +kernel
theorem dX7_feed_14 : decode cX7_feed 14 = .ok (.getfield 28, 3) := by decide +kernel
theorem dX7_feed_17 : decode cX7_feed 17 = .ok (.iload_n 1, 1) := by decide +kernel
theorem dX7_feed_18 : decode cX7_feed 18 = .ok (.invokevirtual 76, 3) := by decide +kernel
theorem dX7_feed_21 : decode cX7_feed 21 = .ok (.ireturn, 1) := by decide +kernel
theorem dX7_read_0 : decode cX7_read 0 = .ok (.aload_n 0, 1) := by decide +kernel
theorem dX7_read_1 : decode cX7_read 1 = .ok (.getfield 28, 3) := by decide +kernel
theorem dX7_read_4 : decode cX7_read 4 = .ok (.invokevirtual 80, 3) := by decide +kernel
theorem dX7_read_7 : decode cX7_read 7 = .ok (.istore_n 1, 1) := by decide +kernel
theorem dX7_read_8 : decode cX7_read 8 = .ok (.iload_n 1, 1) := by decide +kernel
theorem dX7_read_9 : decode cX7_read 9 = .ok (.iconst (-1), 1) := by decide +kernel
theorem dX7_read_10 : decode cX7_read 10 = .ok (.if_icmp .ne 17, 3) := by decide +kernel
theorem dX7_read_13 : decode cX7_read 13 = .ok (.aload_n 0, 1) := by decide +kernel
theorem dX7_read_14 : decode cX7_read 14 = .ok (.getfield 28, 3) := by decide +kernel
theorem dX7_read_17 : decode cX7_read 17 = .ok (.aload_n 0, 1) := by decide +kernel
theorem dX7_read_18 : decode cX7_read 18 = .ok (.getfield 14, 3) := by decide +kernel
theorem dX7_read_21 : decode cX7_read 21 = .ok (.invokevirtual 84, 3) := by decide +kernel
theorem dX7_read_24 : decode cX7_read 24 = .ok (.goto 7, 3) := by decide +kernel
theorem dX7_read_27 : decode cX7_read 27 = .ok (.bipush (-10), 2) := by decide +kernel
theorem dX7_read_29 : decode cX7_read 29 = .ok (.iload_n 1, 1) := by decide +kernel
theorem dX7_read_30 : decode cX7_read 30 = .ok (.isub, 1) := by decide +kernel
theorem dX7_read_31 : decode cX7_read 31 = .ok (.istore_n 2, 1) := by decide +kernel
theorem dX7_read_32 : decode cX7_read 32 = .ok (.aload_n 0, 1) := by decide +kernel
theorem dX7_read_33 : decode cX7_read 33 = .ok (.getfield 28, 3) := by decide +kernel
theorem dX7_read_36 : decode cX7_read 36 = .ok (.iconst 0, 1) := by decide +kernel
theorem dX7_read_37 : decode cX7_read 37 = .ok (.putfield 88, 3) := by decide +kernel
theorem dX7_read_40 : decode cX7_read 40 = .ok (.iload_n 2, 1) := by decide +kernel
theorem dX7_read_41 : decode cX7_read 41 = .ok (.ireturn, 1) := by decide +kernel
theorem dX7_told_0 : decode cX7_told 0 = .ok (.iload_n 1, 1) := by decide +kernel
theorem dX7_told_1 : decode cX7_told 1 = .ok (.tableswitch 229 0 12 #[67, 75, 83, 94, 105, 116, 127, 138, 156, 171, 186, 199, 214], 67) := by decide +kernel
theorem dX7_told_68 : decode cX7_told 68 = .ok (.aload_n 0, 1) := by decide +kernel
theorem dX7_told_69 : decode cX7_told 69 = .ok (.getfield 14, 3) := by decide +kernel
theorem dX7_told_72 : decode cX7_told 72 = .ok (.getfield 53, 3) := by decide +kernel
theorem dX7_told_75 : decode cX7_told 75 = .ok (.ireturn, 1) := by decide +kernel
theorem dX7_told_76 : decode cX7_told 76 = .ok (.aload_n 0, 1) := by decide +kernel
theorem dX7_told_77 : decode cX7_told 77 = .ok (.getfield 14, 3) := by decide +kernel
theorem dX7_told_80 : decode cX7_told 80 = .ok (.getfield 73, 3) := by decide +kernel
theorem dX7_told_83 : decode cX7_told 83 = .ok (.ireturn, 1) := by decide +kernel
theorem dX7_told_84 : decode cX7_told 84 = .ok (.aload_n 0, 1) := by decide +kernel
theorem dX7_told_85 : decode cX7_told 85 = .ok (.getfield 14, 3) := by decide +kernel
theorem dX7_told_88 : decode cX7_told 88 = .ok (.getfield 53, 3) := by decide +kernel
theorem dX7_told_91 : decode cX7_told 91 = .ok (.invokestatic 91, 3) := by decide +kernel
theorem dX7_told_94 : decode cX7_told 94 = .ok (.ireturn, 1) := by decide +kernel
theorem dX7_told_95 : decode cX7_told 95 = .ok (.aload_n 0, 1) := by decide +kernel
theorem dX7_told_96 : decode cX7_told 96 = .ok (.getfield 14, 3) := by decide +kernel
theorem dX7_told_99 : decode cX7_told 99 = .ok (.getfield 53, 3) := by decide +kernel
theorem dX7_told_102 : decode cX7_told 102 = .ok (.invokestatic 96, 3) := by decide +kernel
theorem dX7_told_105 : decode cX7_told 105 = .ok (.ireturn, 1) := by decide +kernel
theorem dX7_told_106 : decode cX7_told 106 = .ok (.aload_n 0, 1) := by decide +kernel
theorem dX7_told_107 : decode cX7_told 107 = .ok (.getfield 14, 3) := by decide +kernel
theorem dX7_told_110 : decode cX7_told 110 = .ok (.getfield 53, 3) := by decide +kernel
theorem dX7_told_113 : decode cX7_told 113 = .ok (.invokestatic 99, 3) := by decide +kernel
theorem dX7_told_116 : decode cX7_told 116 = .ok (.ireturn, 1) := by decide +kernel
theorem dX7_told_117 : decode cX7_told 117 = .ok (.aload_n 0, 1) := by decide +kernel
theorem dX7_told_118 : decode cX7_told 118 = .ok (.getfield 14, 3) := by decide +kernel
theorem dX7_told_121 : decode cX7_told 121 = .ok (.getfield 53, 3) := by decide +kernel
theorem dX7_told_124 : decode cX7_told 124 = .ok (.invokestatic 102, 3) := by decide +kernel
theorem dX7_told_127 : decode cX7_told 127 = .ok (.ireturn, 1) := by decide +kernel
theorem dX7_told_128 : decode cX7_told 128 = .ok (.aload_n 0, 1) := by decide +kernel
theorem dX7_told_129 : decode cX7_told 129 = .ok (.getfield 14, 3) := by decide +kernel
theorem dX7_told_132 : decode cX7_told 132 = .ok (.getfield 53, 3) := by decide +kernel
theorem dX7_told_135 : decode cX7_told 135 = .ok (.invokestatic 105, 3) := by decide +kernel
theorem dX7_told_138 : decode cX7_told 138 = .ok (.ireturn, 1) := by decide +kernel
theorem dX7_told_139 : decode cX7_told 139 = .ok (.aload_n 0, 1) := by decide +kernel
theorem dX7_told_140 : decode cX7_told 140 = .ok (.getfield 14, 3) := by decide +kernel
theorem dX7_told_143 : decode cX7_told 143 = .ok (.getfield 53, 3) := by decide +kernel
theorem dX7_told_146 : decode cX7_told 146 = .ok (.aload_n 0, 1) := by decide +kernel
theorem dX7_told_147 : decode cX7_told 147 = .ok (.getfield 14, 3) := by decide +kernel
theorem dX7_told_150 : decode cX7_told 150 = .ok (.getfield 73, 3) := by decide +kernel
theorem dX7_told_153 : decode cX7_told 153 = .ok (.invokestatic 108, 3) := by decide +kernel
theorem dX7_told_156 : decode cX7_told 156 = .ok (.ireturn, 1) := by decide +kernel
theorem dX7_told_157 : decode cX7_told 157 = .ok (.aload_n 0, 1) := by decide +kernel
theorem dX7_told_158 : decode cX7_told 158 = .ok (.getfield 35, 3) := by decide +kernel
theorem dX7_told_161 : decode cX7_told 161 = .ok (.aload_n 0, 1) := by decide +kernel
theorem dX7_told_162 : decode cX7_told 162 = .ok (.getfield 14, 3) := by decide +kernel
theorem dX7_told_165 : decode cX7_told 165 = .ok (.getfield 53, 3) := by decide +kernel
theorem dX7_told_168 : decode cX7_told 168 = .ok (.invokevirtual 111, 3) := by decide +kernel
theorem dX7_told_171 : decode cX7_told 171 = .ok (.ireturn, 1) := by decide +kernel
theorem dX7_told_172 : decode cX7_told 172 = .ok (.aload_n 0, 1) := by decide +kernel
theorem dX7_told_173 : decode cX7_told 173 = .ok (.getfield 35, 3) := by decide +kernel
theorem dX7_told_176 : decode cX7_told 176 = .ok (.aload_n 0, 1) := by decide +kernel
theorem dX7_told_177 : decode cX7_told 177 = .ok (.getfield 14, 3) := by decide +kernel
theorem dX7_told_180 : decode cX7_told 180 = .ok (.getfield 53, 3) := by decide +kernel
theorem dX7_told_183 : decode cX7_told 183 = .ok (.invokevirtual 114, 3) := by decide +kernel
theorem dX7_told_186 : decode cX7_told 186 = .ok (.ireturn, 1) := by decide +kernel
theorem dX7_told_187 : decode cX7_told 187 = .ok (.aload_n 0, 1) := by decide +kernel
theorem dX7_told_188 : decode cX7_told 188 = .ok (.getfield 14, 3) := by decide +kernel
theorem dX7_told_191 : decode cX7_told 191 = .ok (.getfield 53, 3) := by decide +kernel
theorem dX7_told_194 : decode cX7_told 194 = .ok (.invokestatic 117, 3) := by decide +kernel
theorem dX7_told_197 : decode cX7_told 197 = .ok (.iconst 1, 1) := by decide +kernel
theorem dX7_told_198 : decode cX7_told 198 = .ok (.iadd, 1) := by decide +kernel
theorem dX7_told_199 : decode cX7_told 199 = .ok (.ireturn, 1) := by decide +kernel
theorem dX7_told_200 : decode cX7_told 200 = .ok (.aload_n 0, 1) := by decide +kernel
theorem dX7_told_201 : decode cX7_told 201 = .ok (.getfield 35, 3) := by decide +kernel
theorem dX7_told_204 : decode cX7_told 204 = .ok (.aload_n 0, 1) := by decide +kernel
theorem dX7_told_205 : decode cX7_told 205 = .ok (.getfield 14, 3) := by decide +kernel
theorem dX7_told_208 : decode cX7_told 208 = .ok (.getfield 53, 3) := by decide +kernel
theorem dX7_told_211 : decode cX7_told 211 = .ok (.invokevirtual 120, 3) := by decide +kernel
theorem dX7_told_214 : decode cX7_told 214 = .ok (.ireturn, 1) := by decide +kernel
theorem dX7_told_215 : decode cX7_told 215 = .ok (.aload_n 0, 1) := by decide +kernel
theorem dX7_told_216 : decode cX7_told 216 = .ok (.getfield 35, 3) := by decide +kernel
theorem dX7_told_219 : decode cX7_told 219 = .ok (.aload_n 0, 1) := by decide +kernel
theorem dX7_told_220 : decode cX7_told 220 = .ok (.getfield 14, 3) := by decide +kernel
theorem dX7_told_223 : decode cX7_told 223 = .ok (.getfield 53, 3) := by decide +kernel
theorem dX7_told_226 : decode cX7_told 226 = .ok (.invokevirtual 123, 3) := by decide +kernel
theorem dX7_told_229 : decode cX7_told 229 = .ok (.ireturn, 1) := by decide +kernel
theorem dX7_told_230 : decode cX7_told 230 = .ok (.iconst (-1), 1) := by decide +kernel
theorem dX7_told_231 : decode cX7_told 231 = .ok (.ireturn, 1) := by decide +kernel
theorem dX7_carried_0 : decode cX7_carried 0 = .ok (.iload_n 1, 1) := by decide +kernel
theorem dX7_carried_1 : decode cX7_carried 1 = .ok (.invokestatic 61, 3) := by decide +kernel
theorem dX7_carried_4 : decode cX7_carried 4 = .ok (.ifCond .eq 18, 3) := by decide +kernel
theorem dX7_carried_7 : decode cX7_carried 7 = .ok (.iload_n 2, 1) := by decide +kernel
theorem dX7_carried_8 : decode cX7_carried 8 = .ok (.invokestatic 46, 3) := by decide +kernel
theorem dX7_carried_11 : decode cX7_carried 11 = .ok (.ifCond .eq 11, 3) := by decide +kernel
theorem dX7_carried_14 : decode cX7_carried 14 = .ok (.iload_n 1, 1) := by decide +kernel
theorem dX7_carried_15 : decode cX7_carried 15 = .ok (.iload_n 2, 1) := by decide +kernel
theorem dX7_carried_16 : decode cX7_carried 16 = .ok (.invokestatic 126, 3) := by decide +kernel
theorem dX7_carried_19 : decode cX7_carried 19 = .ok (.goto 4, 3) := by decide +kernel
theorem dX7_carried_22 : decode cX7_carried 22 = .ok (.iconst (-1), 1) := by decide +kernel
theorem dX7_carried_23 : decode cX7_carried 23 = .ok (.ireturn, 1) := by decide +kernel
theorem dX7_imaged_0 : decode cX7_imaged 0 = .ok (.iload_n 1, 1) := by decide +kernel
theorem dX7_imaged_1 : decode cX7_imaged 1 = .ok (.invokestatic 61, 3) := by decide +kernel
theorem dX7_imaged_4 : decode cX7_imaged 4 = .ok (.ifCond .eq 17, 3) := by decide +kernel
theorem dX7_imaged_7 : decode cX7_imaged 7 = .ok (.iload_n 1, 1) := by decide +kernel
theorem dX7_imaged_8 : decode cX7_imaged 8 = .ok (.aload_n 0, 1) := by decide +kernel
theorem dX7_imaged_9 : decode cX7_imaged 9 = .ok (.getfield 14, 3) := by decide +kernel
theorem dX7_imaged_12 : decode cX7_imaged 12 = .ok (.getfield 53, 3) := by decide +kernel
theorem dX7_imaged_15 : decode cX7_imaged 15 = .ok (.invokestatic 64, 3) := by decide +kernel
theorem dX7_imaged_18 : decode cX7_imaged 18 = .ok (.goto 4, 3) := by decide +kernel
theorem dX7_imaged_21 : decode cX7_imaged 21 = .ok (.iconst (-1), 1) := by decide +kernel
theorem dX7_imaged_22 : decode cX7_imaged 22 = .ok (.ireturn, 1) := by decide +kernel
theorem dX7_form_0 : decode cX7_form 0 = .ok (.iload_n 1, 1) := by decide +kernel
theorem dX7_form_1 : decode cX7_form 1 = .ok (.ifCond .ge 5, 3) := by decide +kernel
theorem dX7_form_4 : decode cX7_form 4 = .ok (.iconst (-1), 1) := by decide +kernel
theorem dX7_form_5 : decode cX7_form 5 = .ok (.ireturn, 1) := by decide +kernel
theorem dX7_form_6 : decode cX7_form 6 = .ok (.iload_n 1, 1) := by decide +kernel
theorem dX7_form_7 : decode cX7_form 7 = .ok (.getstatic 129, 3) := by decide +kernel
theorem dX7_form_10 : decode cX7_form 10 = .ok (.arraylength, 1) := by decide +kernel
theorem dX7_form_11 : decode cX7_form 11 = .ok (.if_icmp .ge 11, 3) := by decide +kernel
theorem dX7_form_14 : decode cX7_form 14 = .ok (.getstatic 129, 3) := by decide +kernel
theorem dX7_form_17 : decode cX7_form 17 = .ok (.iload_n 1, 1) := by decide +kernel
theorem dX7_form_18 : decode cX7_form 18 = .ok (.iaload, 1) := by decide +kernel
theorem dX7_form_19 : decode cX7_form 19 = .ok (.goto 5, 3) := by decide +kernel
theorem dX7_form_22 : decode cX7_form 22 = .ok (.bipush (-5), 2) := by decide +kernel
theorem dX7_form_24 : decode cX7_form 24 = .ok (.ireturn, 1) := by decide +kernel
theorem dX7_classes_0 : decode cX7_classes 0 = .ok (.iload_n 1, 1) := by decide +kernel
theorem dX7_classes_1 : decode cX7_classes 1 = .ok (.ifCond .lt 9, 3) := by decide +kernel
theorem dX7_classes_4 : decode cX7_classes 4 = .ok (.iload_n 1, 1) := by decide +kernel
theorem dX7_classes_5 : decode cX7_classes 5 = .ok (.bipush 8, 2) := by decide +kernel
theorem dX7_classes_7 : decode cX7_classes 7 = .ok (.if_icmp .le 8, 3) := by decide +kernel
theorem dX7_classes_10 : decode cX7_classes 10 = .ok (.bipush (-2), 2) := by decide +kernel
theorem dX7_classes_12 : decode cX7_classes 12 = .ok (.goto 7, 3) := by decide +kernel
theorem dX7_classes_15 : decode cX7_classes 15 = .ok (.iload_n 1, 1) := by decide +kernel
theorem dX7_classes_16 : decode cX7_classes 16 = .ok (.invokestatic 133, 3) := by decide +kernel
theorem dX7_classes_19 : decode cX7_classes 19 = .ok (.ireturn, 1) := by decide +kernel
theorem dX7_weighs_0 : decode cX7_weighs 0 = .ok (.iload_n 1, 1) := by decide +kernel
theorem dX7_weighs_1 : decode cX7_weighs 1 = .ok (.invokestatic 136, 3) := by decide +kernel
theorem dX7_weighs_4 : decode cX7_weighs 4 = .ok (.ifCond .eq 29, 3) := by decide +kernel
theorem dX7_weighs_7 : decode cX7_weighs 7 = .ok (.iload_n 2, 1) := by decide +kernel
theorem dX7_weighs_8 : decode cX7_weighs 8 = .ok (.invokestatic 136, 3) := by decide +kernel
theorem dX7_weighs_11 : decode cX7_weighs 11 = .ok (.ifCond .eq 22, 3) := by decide +kernel
theorem dX7_weighs_14 : decode cX7_weighs 14 = .ok (.iload_n 3, 1) := by decide +kernel
theorem dX7_weighs_15 : decode cX7_weighs 15 = .ok (.invokestatic 136, 3) := by decide +kernel
theorem dX7_weighs_18 : decode cX7_weighs 18 = .ok (.ifCond .eq 15, 3) := by decide +kernel
theorem dX7_weighs_21 : decode cX7_weighs 21 = .ok (.iload_n 1, 1) := by decide +kernel
theorem dX7_weighs_22 : decode cX7_weighs 22 = .ok (.ifCond .ne 14, 3) := by decide +kernel
theorem dX7_weighs_25 : decode cX7_weighs 25 = .ok (.iload_n 2, 1) := by decide +kernel
theorem dX7_weighs_26 : decode cX7_weighs 26 = .ok (.ifCond .ne 10, 3) := by decide +kernel
theorem dX7_weighs_29 : decode cX7_weighs 29 = .ok (.iload_n 3, 1) := by decide +kernel
theorem dX7_weighs_30 : decode cX7_weighs 30 = .ok (.ifCond .ne 6, 3) := by decide +kernel
theorem dX7_weighs_33 : decode cX7_weighs 33 = .ok (.bipush (-2), 2) := by decide +kernel
theorem dX7_weighs_35 : decode cX7_weighs 35 = .ok (.ireturn, 1) := by decide +kernel
theorem dX7_weighs_36 : decode cX7_weighs 36 = .ok (.iload 4, 2) := by decide +kernel
theorem dX7_weighs_38 : decode cX7_weighs 38 = .ok (.ifCond .lt 9, 3) := by decide +kernel
theorem dX7_weighs_41 : decode cX7_weighs 41 = .ok (.iload 4, 2) := by decide +kernel
theorem dX7_weighs_43 : decode cX7_weighs 43 = .ok (.iconst 2, 1) := by decide +kernel
theorem dX7_weighs_44 : decode cX7_weighs 44 = .ok (.if_icmp .le 5, 3) := by decide +kernel
theorem dX7_weighs_47 : decode cX7_weighs 47 = .ok (.iconst (-1), 1) := by decide +kernel
theorem dX7_weighs_48 : decode cX7_weighs 48 = .ok (.ireturn, 1) := by decide +kernel
theorem dX7_weighs_49 : decode cX7_weighs 49 = .ok (.aload_n 0, 1) := by decide +kernel
theorem dX7_weighs_50 : decode cX7_weighs 50 = .ok (.getfield 14, 3) := by decide +kernel
theorem dX7_weighs_53 : decode cX7_weighs 53 = .ok (.getfield 53, 3) := by decide +kernel
theorem dX7_weighs_56 : decode cX7_weighs 56 = .ok (.ifCond .ne 6, 3) := by decide +kernel
theorem dX7_weighs_59 : decode cX7_weighs 59 = .ok (.bipush (-3), 2) := by decide +kernel
theorem dX7_weighs_61 : decode cX7_weighs 61 = .ok (.ireturn, 1) := by decide +kernel
theorem dX7_weighs_62 : decode cX7_weighs 62 = .ok (.aload_n 0, 1) := by decide +kernel
theorem dX7_weighs_63 : decode cX7_weighs 63 = .ok (.getfield 14, 3) := by decide +kernel
theorem dX7_weighs_66 : decode cX7_weighs 66 = .ok (.getfield 53, 3) := by decide +kernel
theorem dX7_weighs_69 : decode cX7_weighs 69 = .ok (.iload_n 1, 1) := by decide +kernel
theorem dX7_weighs_70 : decode cX7_weighs 70 = .ok (.iload_n 2, 1) := by decide +kernel
theorem dX7_weighs_71 : decode cX7_weighs 71 = .ok (.iload_n 3, 1) := by decide +kernel
theorem dX7_weighs_72 : decode cX7_weighs 72 = .ok (.invokestatic 139, 3) := by decide +kernel
theorem dX7_weighs_75 : decode cX7_weighs 75 = .ok (.istore 5, 2) := by decide +kernel
theorem dX7_weighs_77 : decode cX7_weighs 77 = .ok (.iload 4, 2) := by decide +kernel
theorem dX7_weighs_79 : decode cX7_weighs 79 = .ok (.ifCond .ne 9, 3) := by decide +kernel
theorem dX7_weighs_82 : decode cX7_weighs 82 = .ok (.iload 5, 2) := by decide +kernel
theorem dX7_weighs_84 : decode cX7_weighs 84 = .ok (.bipush 100, 2) := by decide +kernel
theorem dX7_weighs_86 : decode cX7_weighs 86 = .ok (.iadd, 1) := by decide +kernel
theorem dX7_weighs_87 : decode cX7_weighs 87 = .ok (.ireturn, 1) := by decide +kernel
theorem dX7_weighs_88 : decode cX7_weighs 88 = .ok (.iload 4, 2) := by decide +kernel
theorem dX7_weighs_90 : decode cX7_weighs 90 = .ok (.iconst 1, 1) := by decide +kernel
theorem dX7_weighs_91 : decode cX7_weighs 91 = .ok (.if_icmp .ne 25, 3) := by decide +kernel
theorem dX7_weighs_94 : decode cX7_weighs 94 = .ok (.bipush 100, 2) := by decide +kernel
theorem dX7_weighs_96 : decode cX7_weighs 96 = .ok (.aload_n 0, 1) := by decide +kernel
theorem dX7_weighs_97 : decode cX7_weighs 97 = .ok (.getfield 14, 3) := by decide +kernel
theorem dX7_weighs_100 : decode cX7_weighs 100 = .ok (.getfield 53, 3) := by decide +kernel
theorem dX7_weighs_103 : decode cX7_weighs 103 = .ok (.iload_n 1, 1) := by decide +kernel
theorem dX7_weighs_104 : decode cX7_weighs 104 = .ok (.ineg, 1) := by decide +kernel
theorem dX7_weighs_105 : decode cX7_weighs 105 = .ok (.iload_n 2, 1) := by decide +kernel
theorem dX7_weighs_106 : decode cX7_weighs 106 = .ok (.ineg, 1) := by decide +kernel
theorem dX7_weighs_107 : decode cX7_weighs 107 = .ok (.iload_n 3, 1) := by decide +kernel
theorem dX7_weighs_108 : decode cX7_weighs 108 = .ok (.ineg, 1) := by decide +kernel
theorem dX7_weighs_109 : decode cX7_weighs 109 = .ok (.invokestatic 139, 3) := by decide +kernel
theorem dX7_weighs_112 : decode cX7_weighs 112 = .ok (.isub, 1) := by decide +kernel
theorem dX7_weighs_113 : decode cX7_weighs 113 = .ok (.goto 18, 3) := by decide +kernel
theorem dX7_weighs_116 : decode cX7_weighs 116 = .ok (.aload_n 0, 1) := by decide +kernel
theorem dX7_weighs_117 : decode cX7_weighs 117 = .ok (.getfield 14, 3) := by decide +kernel
theorem dX7_weighs_120 : decode cX7_weighs 120 = .ok (.getfield 53, 3) := by decide +kernel
theorem dX7_weighs_123 : decode cX7_weighs 123 = .ok (.iload_n 1, 1) := by decide +kernel
theorem dX7_weighs_124 : decode cX7_weighs 124 = .ok (.iload_n 2, 1) := by decide +kernel
theorem dX7_weighs_125 : decode cX7_weighs 125 = .ok (.iload_n 3, 1) := by decide +kernel
theorem dX7_weighs_126 : decode cX7_weighs 126 = .ok (.iload 5, 2) := by decide +kernel
theorem dX7_weighs_128 : decode cX7_weighs 128 = .ok (.invokestatic 143, 3) := by decide +kernel
theorem dX7_weighs_131 : decode cX7_weighs 131 = .ok (.ireturn, 1) := by decide +kernel
theorem dX7_face_0 : decode cX7_face 0 = .ok (.iload_n 1, 1) := by decide +kernel
theorem dX7_face_1 : decode cX7_face 1 = .ok (.ifCond .ge 7, 3) := by decide +kernel
theorem dX7_face_4 : decode cX7_face 4 = .ok (.iconst (-1), 1) := by decide +kernel
theorem dX7_face_5 : decode cX7_face 5 = .ok (.goto 18, 3) := by decide +kernel
theorem dX7_face_8 : decode cX7_face 8 = .ok (.aload_n 0, 1) := by decide +kernel
theorem dX7_face_9 : decode cX7_face 9 = .ok (.getfield 35, 3) := by decide +kernel
theorem dX7_face_12 : decode cX7_face 12 = .ok (.aload_n 0, 1) := by decide +kernel
theorem dX7_face_13 : decode cX7_face 13 = .ok (.getfield 14, 3) := by decide +kernel
theorem dX7_face_16 : decode cX7_face 16 = .ok (.getfield 53, 3) := by decide +kernel
theorem dX7_face_19 : decode cX7_face 19 = .ok (.iload_n 1, 1) := by decide +kernel
theorem dX7_face_20 : decode cX7_face 20 = .ok (.invokevirtual 147, 3) := by decide +kernel
theorem dX7_face_23 : decode cX7_face 23 = .ok (.ireturn, 1) := by decide +kernel
theorem dX7_edge_0 : decode cX7_edge 0 = .ok (.iload_n 1, 1) := by decide +kernel
theorem dX7_edge_1 : decode cX7_edge 1 = .ok (.invokestatic 46, 3) := by decide +kernel
theorem dX7_edge_4 : decode cX7_edge 4 = .ok (.ifCond .eq 10, 3) := by decide +kernel
theorem dX7_edge_7 : decode cX7_edge 7 = .ok (.iload_n 2, 1) := by decide +kernel
theorem dX7_edge_8 : decode cX7_edge 8 = .ok (.invokestatic 46, 3) := by decide +kernel
theorem dX7_edge_11 : decode cX7_edge 11 = .ok (.ifCond .ne 5, 3) := by decide +kernel
theorem dX7_edge_14 : decode cX7_edge 14 = .ok (.iconst (-1), 1) := by decide +kernel
theorem dX7_edge_15 : decode cX7_edge 15 = .ok (.ireturn, 1) := by decide +kernel
theorem dX7_edge_16 : decode cX7_edge 16 = .ok (.iload_n 1, 1) := by decide +kernel
theorem dX7_edge_17 : decode cX7_edge 17 = .ok (.iload_n 2, 1) := by decide +kernel
theorem dX7_edge_18 : decode cX7_edge 18 = .ok (.if_icmp .eq 31, 3) := by decide +kernel
theorem dX7_edge_21 : decode cX7_edge 21 = .ok (.aload_n 0, 1) := by decide +kernel
theorem dX7_edge_22 : decode cX7_edge 22 = .ok (.getfield 14, 3) := by decide +kernel
theorem dX7_edge_25 : decode cX7_edge 25 = .ok (.getfield 53, 3) := by decide +kernel
theorem dX7_edge_28 : decode cX7_edge 28 = .ok (.iload_n 1, 1) := by decide +kernel
theorem dX7_edge_29 : decode cX7_edge 29 = .ok (.invokestatic 57, 3) := by decide +kernel
theorem dX7_edge_32 : decode cX7_edge 32 = .ok (.ifCond .eq 17, 3) := by decide +kernel
theorem dX7_edge_35 : decode cX7_edge 35 = .ok (.aload_n 0, 1) := by decide +kernel
theorem dX7_edge_36 : decode cX7_edge 36 = .ok (.getfield 14, 3) := by decide +kernel
theorem dX7_edge_39 : decode cX7_edge 39 = .ok (.getfield 53, 3) := by decide +kernel
theorem dX7_edge_42 : decode cX7_edge 42 = .ok (.iload_n 2, 1) := by decide +kernel
theorem dX7_edge_43 : decode cX7_edge 43 = .ok (.invokestatic 57, 3) := by decide +kernel
theorem dX7_edge_46 : decode cX7_edge 46 = .ok (.ifCond .ne 6, 3) := by decide +kernel
theorem dX7_edge_49 : decode cX7_edge 49 = .ok (.bipush (-5), 2) := by decide +kernel
theorem dX7_edge_51 : decode cX7_edge 51 = .ok (.ireturn, 1) := by decide +kernel
theorem dX7_edge_52 : decode cX7_edge 52 = .ok (.aload_n 0, 1) := by decide +kernel
theorem dX7_edge_53 : decode cX7_edge 53 = .ok (.getfield 35, 3) := by decide +kernel
theorem dX7_edge_56 : decode cX7_edge 56 = .ok (.aload_n 0, 1) := by decide +kernel
theorem dX7_edge_57 : decode cX7_edge 57 = .ok (.getfield 14, 3) := by decide +kernel
theorem dX7_edge_60 : decode cX7_edge 60 = .ok (.getfield 53, 3) := by decide +kernel
theorem dX7_edge_63 : decode cX7_edge 63 = .ok (.iconst 1, 1) := by decide +kernel
theorem dX7_edge_64 : decode cX7_edge 64 = .ok (.iload_n 1, 1) := by decide +kernel
theorem dX7_edge_65 : decode cX7_edge 65 = .ok (.ishl, 1) := by decide +kernel
theorem dX7_edge_66 : decode cX7_edge 66 = .ok (.iconst 1, 1) := by decide +kernel
theorem dX7_edge_67 : decode cX7_edge 67 = .ok (.iload_n 2, 1) := by decide +kernel
theorem dX7_edge_68 : decode cX7_edge 68 = .ok (.ishl, 1) := by decide +kernel
theorem dX7_edge_69 : decode cX7_edge 69 = .ok (.ior, 1) := by decide +kernel
theorem dX7_edge_70 : decode cX7_edge 70 = .ok (.invokevirtual 150, 3) := by decide +kernel
theorem dX7_edge_73 : decode cX7_edge 73 = .ok (.ifCond .eq 7, 3) := by decide +kernel
theorem dX7_edge_76 : decode cX7_edge 76 = .ok (.iconst 1, 1) := by decide +kernel
theorem dX7_edge_77 : decode cX7_edge 77 = .ok (.goto 4, 3) := by decide +kernel
theorem dX7_edge_80 : decode cX7_edge 80 = .ok (.iconst 0, 1) := by decide +kernel
theorem dX7_edge_81 : decode cX7_edge 81 = .ok (.ireturn, 1) := by decide +kernel
theorem dX7_points_0 : decode cX7_points 0 = .ok (.iload_n 1, 1) := by decide +kernel
theorem dX7_points_1 : decode cX7_points 1 = .ok (.invokestatic 154, 3) := by decide +kernel
theorem dX7_points_4 : decode cX7_points 4 = .ok (.ifCond .ne 6, 3) := by decide +kernel
theorem dX7_points_7 : decode cX7_points 7 = .ok (.bipush (-2), 2) := by decide +kernel
theorem dX7_points_9 : decode cX7_points 9 = .ok (.ireturn, 1) := by decide +kernel
theorem dX7_points_10 : decode cX7_points 10 = .ok (.aload_n 0, 1) := by decide +kernel
theorem dX7_points_11 : decode cX7_points 11 = .ok (.getfield 14, 3) := by decide +kernel
theorem dX7_points_14 : decode cX7_points 14 = .ok (.getfield 53, 3) := by decide +kernel
theorem dX7_points_17 : decode cX7_points 17 = .ok (.ifCond .ne 8, 3) := by decide +kernel
theorem dX7_points_20 : decode cX7_points 20 = .ok (.bipush (-3), 2) := by decide +kernel
theorem dX7_points_22 : decode cX7_points 22 = .ok (.goto 18, 3) := by decide +kernel
theorem dX7_points_25 : decode cX7_points 25 = .ok (.aload_n 0, 1) := by decide +kernel
theorem dX7_points_26 : decode cX7_points 26 = .ok (.getfield 35, 3) := by decide +kernel
theorem dX7_points_29 : decode cX7_points 29 = .ok (.aload_n 0, 1) := by decide +kernel
theorem dX7_points_30 : decode cX7_points 30 = .ok (.getfield 14, 3) := by decide +kernel
theorem dX7_points_33 : decode cX7_points 33 = .ok (.getfield 53, 3) := by decide +kernel
theorem dX7_points_36 : decode cX7_points 36 = .ok (.iload_n 1, 1) := by decide +kernel
theorem dX7_points_37 : decode cX7_points 37 = .ok (.invokevirtual 157, 3) := by decide +kernel
theorem dX7_points_40 : decode cX7_points 40 = .ok (.ireturn, 1) := by decide +kernel
theorem dX7_holds_0 : decode cX7_holds 0 = .ok (.iload_n 1, 1) := by decide +kernel
theorem dX7_holds_1 : decode cX7_holds 1 = .ok (.invokestatic 154, 3) := by decide +kernel
theorem dX7_holds_4 : decode cX7_holds 4 = .ok (.ifCond .eq 25, 3) := by decide +kernel
theorem dX7_holds_7 : decode cX7_holds 7 = .ok (.iload_n 2, 1) := by decide +kernel
theorem dX7_holds_8 : decode cX7_holds 8 = .ok (.invokestatic 160, 3) := by decide +kernel
theorem dX7_holds_11 : decode cX7_holds 11 = .ok (.ifCond .eq 18, 3) := by decide +kernel
theorem dX7_holds_14 : decode cX7_holds 14 = .ok (.iload_n 3, 1) := by decide +kernel
theorem dX7_holds_15 : decode cX7_holds 15 = .ok (.invokestatic 160, 3) := by decide +kernel
theorem dX7_holds_18 : decode cX7_holds 18 = .ok (.ifCond .eq 11, 3) := by decide +kernel
theorem dX7_holds_21 : decode cX7_holds 21 = .ok (.iload 4, 2) := by decide +kernel
theorem dX7_holds_23 : decode cX7_holds 23 = .ok (.invokestatic 160, 3) := by decide +kernel
theorem dX7_holds_26 : decode cX7_holds 26 = .ok (.ifCond .ne 6, 3) := by decide +kernel
theorem dX7_holds_29 : decode cX7_holds 29 = .ok (.bipush (-2), 2) := by decide +kernel
theorem dX7_holds_31 : decode cX7_holds 31 = .ok (.ireturn, 1) := by decide +kernel
theorem dX7_holds_32 : decode cX7_holds 32 = .ok (.aload_n 0, 1) := by decide +kernel
theorem dX7_holds_33 : decode cX7_holds 33 = .ok (.getfield 14, 3) := by decide +kernel
theorem dX7_holds_36 : decode cX7_holds 36 = .ok (.getfield 53, 3) := by decide +kernel
theorem dX7_holds_39 : decode cX7_holds 39 = .ok (.ifCond .ne 6, 3) := by decide +kernel
theorem dX7_holds_42 : decode cX7_holds 42 = .ok (.bipush (-3), 2) := by decide +kernel
theorem dX7_holds_44 : decode cX7_holds 44 = .ok (.ireturn, 1) := by decide +kernel
theorem dX7_holds_45 : decode cX7_holds 45 = .ok (.aload_n 0, 1) := by decide +kernel
theorem dX7_holds_46 : decode cX7_holds 46 = .ok (.getfield 35, 3) := by decide +kernel
theorem dX7_holds_49 : decode cX7_holds 49 = .ok (.aload_n 0, 1) := by decide +kernel
theorem dX7_holds_50 : decode cX7_holds 50 = .ok (.getfield 14, 3) := by decide +kernel
theorem dX7_holds_53 : decode cX7_holds 53 = .ok (.getfield 53, 3) := by decide +kernel
theorem dX7_holds_56 : decode cX7_holds 56 = .ok (.iload_n 1, 1) := by decide +kernel
theorem dX7_holds_57 : decode cX7_holds 57 = .ok (.iload_n 2, 1) := by decide +kernel
theorem dX7_holds_58 : decode cX7_holds 58 = .ok (.iload_n 3, 1) := by decide +kernel
theorem dX7_holds_59 : decode cX7_holds 59 = .ok (.iload 4, 2) := by decide +kernel
theorem dX7_holds_61 : decode cX7_holds 61 = .ok (.invokevirtual 163, 3) := by decide +kernel
theorem dX7_holds_64 : decode cX7_holds 64 = .ok (.ifCond .eq 7, 3) := by decide +kernel
theorem dX7_holds_67 : decode cX7_holds 67 = .ok (.iconst 1, 1) := by decide +kernel
theorem dX7_holds_68 : decode cX7_holds 68 = .ok (.goto 4, 3) := by decide +kernel
theorem dX7_holds_71 : decode cX7_holds 71 = .ok (.iconst 0, 1) := by decide +kernel
theorem dX7_holds_72 : decode cX7_holds 72 = .ok (.ireturn, 1) := by decide +kernel
theorem dX7_floats_0 : decode cX7_floats 0 = .ok (.iload_n 1, 1) := by decide +kernel
theorem dX7_floats_1 : decode cX7_floats 1 = .ok (.ifCond .lt 8, 3) := by decide +kernel
theorem dX7_floats_4 : decode cX7_floats 4 = .ok (.iload_n 1, 1) := by decide +kernel
theorem dX7_floats_5 : decode cX7_floats 5 = .ok (.iconst 3, 1) := by decide +kernel
theorem dX7_floats_6 : decode cX7_floats 6 = .ok (.if_icmp .le 5, 3) := by decide +kernel
theorem dX7_floats_9 : decode cX7_floats 9 = .ok (.iconst (-1), 1) := by decide +kernel
theorem dX7_floats_10 : decode cX7_floats 10 = .ok (.ireturn, 1) := by decide +kernel
theorem dX7_floats_11 : decode cX7_floats 11 = .ok (.aload_n 0, 1) := by decide +kernel
theorem dX7_floats_12 : decode cX7_floats 12 = .ok (.getfield 14, 3) := by decide +kernel
theorem dX7_floats_15 : decode cX7_floats 15 = .ok (.getfield 53, 3) := by decide +kernel
theorem dX7_floats_18 : decode cX7_floats 18 = .ok (.ifCond .ne 6, 3) := by decide +kernel
theorem dX7_floats_21 : decode cX7_floats 21 = .ok (.bipush (-3), 2) := by decide +kernel
theorem dX7_floats_23 : decode cX7_floats 23 = .ok (.ireturn, 1) := by decide +kernel
theorem dX7_floats_24 : decode cX7_floats 24 = .ok (.iload_n 1, 1) := by decide +kernel
theorem dX7_floats_25 : decode cX7_floats 25 = .ok (.iconst 3, 1) := by decide +kernel
theorem dX7_floats_26 : decode cX7_floats 26 = .ok (.if_icmp .ne 20, 3) := by decide +kernel
theorem dX7_floats_29 : decode cX7_floats 29 = .ok (.aload_n 0, 1) := by decide +kernel
theorem dX7_floats_30 : decode cX7_floats 30 = .ok (.getfield 35, 3) := by decide +kernel
theorem dX7_floats_33 : decode cX7_floats 33 = .ok (.aload_n 0, 1) := by decide +kernel
theorem dX7_floats_34 : decode cX7_floats 34 = .ok (.getfield 14, 3) := by decide +kernel
theorem dX7_floats_37 : decode cX7_floats 37 = .ok (.getfield 53, 3) := by decide +kernel
theorem dX7_floats_40 : decode cX7_floats 40 = .ok (.invokevirtual 167, 3) := by decide +kernel
theorem dX7_floats_43 : decode cX7_floats 43 = .ok (.goto 14, 3) := by decide +kernel
theorem dX7_floats_46 : decode cX7_floats 46 = .ok (.aload_n 0, 1) := by decide +kernel
theorem dX7_floats_47 : decode cX7_floats 47 = .ok (.getfield 14, 3) := by decide +kernel
theorem dX7_floats_50 : decode cX7_floats 50 = .ok (.getfield 53, 3) := by decide +kernel
theorem dX7_floats_53 : decode cX7_floats 53 = .ok (.iload_n 1, 1) := by decide +kernel
theorem dX7_floats_54 : decode cX7_floats 54 = .ok (.invokestatic 171, 3) := by decide +kernel
theorem dX7_floats_57 : decode cX7_floats 57 = .ok (.invokestatic 175, 3) := by decide +kernel
theorem dX7_floats_60 : decode cX7_floats 60 = .ok (.ireturn, 1) := by decide +kernel
theorem dX7_spread_0 : decode cX7_spread 0 = .ok (.aload_n 0, 1) := by decide +kernel
theorem dX7_spread_1 : decode cX7_spread 1 = .ok (.getfield 14, 3) := by decide +kernel
theorem dX7_spread_4 : decode cX7_spread 4 = .ok (.getfield 53, 3) := by decide +kernel
theorem dX7_spread_7 : decode cX7_spread 7 = .ok (.ifCond .ne 9, 3) := by decide +kernel
theorem dX7_spread_10 : decode cX7_spread 10 = .ok (.ldc2_w 181, 3) := by decide +kernel
theorem dX7_spread_13 : decode cX7_spread 13 = .ok (.goto 16, 3) := by decide +kernel
theorem dX7_spread_16 : decode cX7_spread 16 = .ok (.aload_n 0, 1) := by decide +kernel
theorem dX7_spread_17 : decode cX7_spread 17 = .ok (.getfield 14, 3) := by decide +kernel
theorem dX7_spread_20 : decode cX7_spread 20 = .ok (.getfield 53, 3) := by decide +kernel
theorem dX7_spread_23 : decode cX7_spread 23 = .ok (.invokestatic 183, 3) := by decide +kernel
theorem dX7_spread_26 : decode cX7_spread 26 = .ok (.invokestatic 187, 3) := by decide +kernel
theorem dX7_spread_29 : decode cX7_spread 29 = .ok (.lreturn, 1) := by decide +kernel
theorem dX7_see_0 : decode cX7_see 0 = .ok (.iload_n 1, 1) := by decide +kernel
theorem dX7_see_1 : decode cX7_see 1 = .ok (.iconst (-1), 1) := by decide +kernel
theorem dX7_see_2 : decode cX7_see 2 = .ok (.if_icmp .ne 14, 3) := by decide +kernel
theorem dX7_see_5 : decode cX7_see 5 = .ok (.aload_n 0, 1) := by decide +kernel
theorem dX7_see_6 : decode cX7_see 6 = .ok (.getfield 14, 3) := by decide +kernel
theorem dX7_see_9 : decode cX7_see 9 = .ok (.getfield 191, 3) := by decide +kernel
theorem dX7_see_12 : decode cX7_see 12 = .ok (.invokevirtual 195, 3) := by decide +kernel
theorem dX7_see_15 : decode cX7_see 15 = .ok (.ireturn, 1) := by decide +kernel
theorem dX7_see_16 : decode cX7_see 16 = .ok (.iload_n 1, 1) := by decide +kernel
theorem dX7_see_17 : decode cX7_see 17 = .ok (.ifCond .lt 8, 3) := by decide +kernel
theorem dX7_see_20 : decode cX7_see 20 = .ok (.iload_n 1, 1) := by decide +kernel
theorem dX7_see_21 : decode cX7_see 21 = .ok (.iconst 3, 1) := by decide +kernel
theorem dX7_see_22 : decode cX7_see 22 = .ok (.if_icmp .le 5, 3) := by decide +kernel
theorem dX7_see_25 : decode cX7_see 25 = .ok (.iconst (-1), 1) := by decide +kernel
theorem dX7_see_26 : decode cX7_see 26 = .ok (.ireturn, 1) := by decide +kernel
theorem dX7_see_27 : decode cX7_see 27 = .ok (.iload_n 2, 1) := by decide +kernel
theorem dX7_see_28 : decode cX7_see 28 = .ok (.ifCond .lt 9, 3) := by decide +kernel
theorem dX7_see_31 : decode cX7_see 31 = .ok (.iload_n 2, 1) := by decide +kernel
theorem dX7_see_32 : decode cX7_see 32 = .ok (.bipush 99, 2) := by decide +kernel
theorem dX7_see_34 : decode cX7_see 34 = .ok (.if_icmp .le 6, 3) := by decide +kernel
theorem dX7_see_37 : decode cX7_see 37 = .ok (.bipush (-2), 2) := by decide +kernel
theorem dX7_see_39 : decode cX7_see 39 = .ok (.ireturn, 1) := by decide +kernel
theorem dX7_see_40 : decode cX7_see 40 = .ok (.aload_n 0, 1) := by decide +kernel
theorem dX7_see_41 : decode cX7_see 41 = .ok (.getfield 14, 3) := by decide +kernel
theorem dX7_see_44 : decode cX7_see 44 = .ok (.getfield 191, 3) := by decide +kernel
theorem dX7_see_47 : decode cX7_see 47 = .ok (.iload_n 1, 1) := by decide +kernel
theorem dX7_see_48 : decode cX7_see 48 = .ok (.iload_n 2, 1) := by decide +kernel
theorem dX7_see_49 : decode cX7_see 49 = .ok (.iconst 4, 1) := by decide +kernel
theorem dX7_see_50 : decode cX7_see 50 = .ok (.invokevirtual 200, 3) := by decide +kernel
theorem dX7_see_53 : decode cX7_see 53 = .ok (.ireturn, 1) := by decide +kernel
theorem dX7_fits_0 : decode cX7_fits 0 = .ok (.iconst 0, 1) := by decide +kernel
theorem dX7_fits_1 : decode cX7_fits 1 = .ok (.istore_n 1, 1) := by decide +kernel
theorem dX7_fits_2 : decode cX7_fits 2 = .ok (.iconst 0, 1) := by decide +kernel
theorem dX7_fits_3 : decode cX7_fits 3 = .ok (.istore_n 2, 1) := by decide +kernel
theorem dX7_fits_4 : decode cX7_fits 4 = .ok (.iload_n 2, 1) := by decide +kernel
theorem dX7_fits_5 : decode cX7_fits 5 = .ok (.bipush 8, 2) := by decide +kernel
theorem dX7_fits_7 : decode cX7_fits 7 = .ok (.if_icmp .ge 33, 3) := by decide +kernel
theorem dX7_fits_10 : decode cX7_fits 10 = .ok (.aload_n 0, 1) := by decide +kernel
theorem dX7_fits_11 : decode cX7_fits 11 = .ok (.aload_n 0, 1) := by decide +kernel
theorem dX7_fits_12 : decode cX7_fits 12 = .ok (.getfield 14, 3) := by decide +kernel
theorem dX7_fits_15 : decode cX7_fits 15 = .ok (.getfield 53, 3) := by decide +kernel
theorem dX7_fits_18 : decode cX7_fits 18 = .ok (.iconst 1, 1) := by decide +kernel
theorem dX7_fits_19 : decode cX7_fits 19 = .ok (.iload_n 2, 1) := by decide +kernel
theorem dX7_fits_20 : decode cX7_fits 20 = .ok (.ishl, 1) := by decide +kernel
theorem dX7_fits_21 : decode cX7_fits 21 = .ok (.ixor, 1) := by decide +kernel
theorem dX7_fits_22 : decode cX7_fits 22 = .ok (.invokevirtual 203, 3) := by decide +kernel
theorem dX7_fits_25 : decode cX7_fits 25 = .ok (.ifCond .eq 9, 3) := by decide +kernel
theorem dX7_fits_28 : decode cX7_fits 28 = .ok (.iload_n 1, 1) := by decide +kernel
theorem dX7_fits_29 : decode cX7_fits 29 = .ok (.iconst 1, 1) := by decide +kernel
theorem dX7_fits_30 : decode cX7_fits 30 = .ok (.iload_n 2, 1) := by decide +kernel
theorem dX7_fits_31 : decode cX7_fits 31 = .ok (.ishl, 1) := by decide +kernel
theorem dX7_fits_32 : decode cX7_fits 32 = .ok (.ior, 1) := by decide +kernel
theorem dX7_fits_33 : decode cX7_fits 33 = .ok (.istore_n 1, 1) := by decide +kernel
theorem dX7_fits_34 : decode cX7_fits 34 = .ok (.iinc 2 1, 3) := by decide +kernel
theorem dX7_fits_37 : decode cX7_fits 37 = .ok (.goto (-33), 3) := by decide +kernel
theorem dX7_fits_40 : decode cX7_fits 40 = .ok (.iload_n 1, 1) := by decide +kernel
theorem dX7_fits_41 : decode cX7_fits 41 = .ok (.ireturn, 1) := by decide +kernel
theorem dX7_allSeenIn_0 : decode cX7_allSeenIn 0 = .ok (.iconst 0, 1) := by decide +kernel
theorem dX7_allSeenIn_1 : decode cX7_allSeenIn 1 = .ok (.istore_n 2, 1) := by decide +kernel
theorem dX7_allSeenIn_2 : decode cX7_allSeenIn 2 = .ok (.iload_n 2, 1) := by decide +kernel
theorem dX7_allSeenIn_3 : decode cX7_allSeenIn 3 = .ok (.aload_n 0, 1) := by decide +kernel
theorem dX7_allSeenIn_4 : decode cX7_allSeenIn 4 = .ok (.getfield 14, 3) := by decide +kernel
theorem dX7_allSeenIn_7 : decode cX7_allSeenIn 7 = .ok (.getfield 191, 3) := by decide +kernel
theorem dX7_allSeenIn_10 : decode cX7_allSeenIn 10 = .ok (.getfield 206, 3) := by decide +kernel
theorem dX7_allSeenIn_13 : decode cX7_allSeenIn 13 = .ok (.if_icmp .ge 41, 3) := by decide +kernel
theorem dX7_allSeenIn_16 : decode cX7_allSeenIn 16 = .ok (.aload_n 0, 1) := by decide +kernel
theorem dX7_allSeenIn_17 : decode cX7_allSeenIn 17 = .ok (.iload_n 1, 1) := by decide +kernel
theorem dX7_allSeenIn_18 : decode cX7_allSeenIn 18 = .ok (.aload_n 0, 1) := by decide +kernel
theorem dX7_allSeenIn_19 : decode cX7_allSeenIn 19 = .ok (.getfield 14, 3) := by decide +kernel
theorem dX7_allSeenIn_22 : decode cX7_allSeenIn 22 = .ok (.getfield 191, 3) := by decide +kernel
theorem dX7_allSeenIn_25 : decode cX7_allSeenIn 25 = .ok (.iload_n 2, 1) := by decide +kernel
theorem dX7_allSeenIn_26 : decode cX7_allSeenIn 26 = .ok (.invokevirtual 207, 3) := by decide +kernel
theorem dX7_allSeenIn_29 : decode cX7_allSeenIn 29 = .ok (.invokevirtual 210, 3) := by decide +kernel
theorem dX7_allSeenIn_32 : decode cX7_allSeenIn 32 = .ok (.aload_n 0, 1) := by decide +kernel
theorem dX7_allSeenIn_33 : decode cX7_allSeenIn 33 = .ok (.getfield 14, 3) := by decide +kernel
theorem dX7_allSeenIn_36 : decode cX7_allSeenIn 36 = .ok (.getfield 191, 3) := by decide +kernel
theorem dX7_allSeenIn_39 : decode cX7_allSeenIn 39 = .ok (.iload_n 2, 1) := by decide +kernel
theorem dX7_allSeenIn_40 : decode cX7_allSeenIn 40 = .ok (.invokevirtual 213, 3) := by decide +kernel
theorem dX7_allSeenIn_43 : decode cX7_allSeenIn 43 = .ok (.if_icmp .eq 5, 3) := by decide +kernel
theorem dX7_allSeenIn_46 : decode cX7_allSeenIn 46 = .ok (.iconst 0, 1) := by decide +kernel
theorem dX7_allSeenIn_47 : decode cX7_allSeenIn 47 = .ok (.ireturn, 1) := by decide +kernel
theorem dX7_allSeenIn_48 : decode cX7_allSeenIn 48 = .ok (.iinc 2 1, 3) := by decide +kernel
theorem dX7_allSeenIn_51 : decode cX7_allSeenIn 51 = .ok (.goto (-49), 3) := by decide +kernel
theorem dX7_allSeenIn_54 : decode cX7_allSeenIn 54 = .ok (.iconst 1, 1) := by decide +kernel
theorem dX7_allSeenIn_55 : decode cX7_allSeenIn 55 = .ok (.ireturn, 1) := by decide +kernel
theorem dX7_sightOf_0 : decode cX7_sightOf 0 = .ok (.iload_n 2, 1) := by decide +kernel
theorem dX7_sightOf_1 : decode cX7_sightOf 1 = .ok (.tableswitch 50 0 2 #[27, 32, 41], 27) := by decide +kernel
theorem dX7_sightOf_28 : decode cX7_sightOf 28 = .ok (.iload_n 1, 1) := by decide +kernel
theorem dX7_sightOf_29 : decode cX7_sightOf 29 = .ok (.invokestatic 91, 3) := by decide +kernel
theorem dX7_sightOf_32 : decode cX7_sightOf 32 = .ok (.ireturn, 1) := by decide +kernel
theorem dX7_sightOf_33 : decode cX7_sightOf 33 = .ok (.aload_n 0, 1) := by decide +kernel
theorem dX7_sightOf_34 : decode cX7_sightOf 34 = .ok (.getfield 35, 3) := by decide +kernel
theorem dX7_sightOf_37 : decode cX7_sightOf 37 = .ok (.iload_n 1, 1) := by decide +kernel
theorem dX7_sightOf_38 : decode cX7_sightOf 38 = .ok (.invokevirtual 120, 3) := by decide +kernel
theorem dX7_sightOf_41 : decode cX7_sightOf 41 = .ok (.ireturn, 1) := by decide +kernel
theorem dX7_sightOf_42 : decode cX7_sightOf 42 = .ok (.aload_n 0, 1) := by decide +kernel
theorem dX7_sightOf_43 : decode cX7_sightOf 43 = .ok (.getfield 35, 3) := by decide +kernel
theorem dX7_sightOf_46 : decode cX7_sightOf 46 = .ok (.iload_n 1, 1) := by decide +kernel
theorem dX7_sightOf_47 : decode cX7_sightOf 47 = .ok (.invokevirtual 111, 3) := by decide +kernel
theorem dX7_sightOf_50 : decode cX7_sightOf 50 = .ok (.ireturn, 1) := by decide +kernel
theorem dX7_sightOf_51 : decode cX7_sightOf 51 = .ok (.iload_n 1, 1) := by decide +kernel
theorem dX7_sightOf_52 : decode cX7_sightOf 52 = .ok (.invokestatic 99, 3) := by decide +kernel
theorem dX7_sightOf_55 : decode cX7_sightOf 55 = .ok (.ireturn, 1) := by decide +kernel
theorem dX7_odds_0 : decode cX7_odds 0 = .ok (.iload_n 1, 1) := by decide +kernel
theorem dX7_odds_1 : decode cX7_odds 1 = .ok (.invokestatic 46, 3) := by decide +kernel
theorem dX7_odds_4 : decode cX7_odds 4 = .ok (.ifCond .eq 10, 3) := by decide +kernel
theorem dX7_odds_7 : decode cX7_odds 7 = .ok (.iload_n 2, 1) := by decide +kernel
theorem dX7_odds_8 : decode cX7_odds 8 = .ok (.invokestatic 50, 3) := by decide +kernel
theorem dX7_odds_11 : decode cX7_odds 11 = .ok (.ifCond .ne 7, 3) := by decide +kernel
theorem dX7_odds_14 : decode cX7_odds 14 = .ok (.ldc2_w 181, 3) := by decide +kernel
theorem dX7_odds_17 : decode cX7_odds 17 = .ok (.lreturn, 1) := by decide +kernel
theorem dX7_odds_18 : decode cX7_odds 18 = .ok (.aload_n 0, 1) := by decide +kernel
theorem dX7_odds_19 : decode cX7_odds 19 = .ok (.getfield 14, 3) := by decide +kernel
theorem dX7_odds_22 : decode cX7_odds 22 = .ok (.getfield 53, 3) := by decide +kernel
theorem dX7_odds_25 : decode cX7_odds 25 = .ok (.iconst 1, 1) := by decide +kernel
theorem dX7_odds_26 : decode cX7_odds 26 = .ok (.iload_n 1, 1) := by decide +kernel
theorem dX7_odds_27 : decode cX7_odds 27 = .ok (.ishl, 1) := by decide +kernel
theorem dX7_odds_28 : decode cX7_odds 28 = .ok (.invokestatic 216, 3) := by decide +kernel
theorem dX7_odds_31 : decode cX7_odds 31 = .ok (.iload_n 2, 1) := by decide +kernel
theorem dX7_odds_32 : decode cX7_odds 32 = .ok (.invokestatic 219, 3) := by decide +kernel
theorem dX7_odds_35 : decode cX7_odds 35 = .ok (.lreturn, 1) := by decide +kernel
theorem dX7_mean_0 : decode cX7_mean 0 = .ok (.iload_n 1, 1) := by decide +kernel
theorem dX7_mean_1 : decode cX7_mean 1 = .ok (.invokestatic 50, 3) := by decide +kernel
theorem dX7_mean_4 : decode cX7_mean 4 = .ok (.ifCond .eq 27, 3) := by decide +kernel
theorem dX7_mean_7 : decode cX7_mean 7 = .ok (.aload_n 0, 1) := by decide +kernel
theorem dX7_mean_8 : decode cX7_mean 8 = .ok (.getfield 14, 3) := by decide +kernel
theorem dX7_mean_11 : decode cX7_mean 11 = .ok (.getfield 53, 3) := by decide +kernel
theorem dX7_mean_14 : decode cX7_mean 14 = .ok (.aload_n 0, 1) := by decide +kernel
theorem dX7_mean_15 : decode cX7_mean 15 = .ok (.getfield 14, 3) := by decide +kernel
theorem dX7_mean_18 : decode cX7_mean 18 = .ok (.getfield 73, 3) := by decide +kernel
theorem dX7_mean_21 : decode cX7_mean 21 = .ok (.invokestatic 216, 3) := by decide +kernel
theorem dX7_mean_24 : decode cX7_mean 24 = .ok (.iload_n 1, 1) := by decide +kernel
theorem dX7_mean_25 : decode cX7_mean 25 = .ok (.invokestatic 219, 3) := by decide +kernel
theorem dX7_mean_28 : decode cX7_mean 28 = .ok (.goto 6, 3) := by decide +kernel
theorem dX7_mean_31 : decode cX7_mean 31 = .ok (.ldc2_w 181, 3) := by decide +kernel
theorem dX7_mean_34 : decode cX7_mean 34 = .ok (.lreturn, 1) := by decide +kernel
theorem dX7_lowestOfMoves_0 : decode cX7_lowestOfMoves 0 = .ok (.iload_n 0, 1) := by decide +kernel
theorem dX7_lowestOfMoves_1 : decode cX7_lowestOfMoves 1 = .ok (.bipush 48, 2) := by decide +kernel
theorem dX7_lowestOfMoves_3 : decode cX7_lowestOfMoves 3 = .ok (.invokestatic 223, 3) := by decide +kernel
theorem dX7_lowestOfMoves_6 : decode cX7_lowestOfMoves 6 = .ok (.istore_n 2, 1) := by decide +kernel
theorem dX7_lowestOfMoves_7 : decode cX7_lowestOfMoves 7 = .ok (.iload_n 2, 1) := by decide +kernel
theorem dX7_lowestOfMoves_8 : decode cX7_lowestOfMoves 8 = .ok (.iconst 1, 1) := by decide +kernel
theorem dX7_lowestOfMoves_9 : decode cX7_lowestOfMoves 9 = .ok (.if_icmp .ge 7, 3) := by decide +kernel
theorem dX7_lowestOfMoves_12 : decode cX7_lowestOfMoves 12 = .ok (.ldc2_w 181, 3) := by decide +kernel
theorem dX7_lowestOfMoves_15 : decode cX7_lowestOfMoves 15 = .ok (.lreturn, 1) := by decide +kernel
theorem dX7_lowestOfMoves_16 : decode cX7_lowestOfMoves 16 = .ok (.iload_n 1, 1) := by decide +kernel
theorem dX7_lowestOfMoves_17 : decode cX7_lowestOfMoves 17 = .ok (.ifCond .ne 10, 3) := by decide +kernel
theorem dX7_lowestOfMoves_20 : decode cX7_lowestOfMoves 20 = .ok (.iload_n 0, 1) := by decide +kernel
theorem dX7_lowestOfMoves_21 : decode cX7_lowestOfMoves 21 = .ok (.iload_n 2, 1) := by decide +kernel
theorem dX7_lowestOfMoves_22 : decode cX7_lowestOfMoves 22 = .ok (.idiv, 1) := by decide +kernel
theorem dX7_lowestOfMoves_23 : decode cX7_lowestOfMoves 23 = .ok (.i2l, 1) := by decide +kernel
theorem dX7_lowestOfMoves_24 : decode cX7_lowestOfMoves 24 = .ok (.goto 8, 3) := by decide +kernel
theorem dX7_lowestOfMoves_27 : decode cX7_lowestOfMoves 27 = .ok (.bipush 48, 2) := by decide +kernel
theorem dX7_lowestOfMoves_29 : decode cX7_lowestOfMoves 29 = .ok (.iload_n 2, 1) := by decide +kernel
theorem dX7_lowestOfMoves_30 : decode cX7_lowestOfMoves 30 = .ok (.idiv, 1) := by decide +kernel
theorem dX7_lowestOfMoves_31 : decode cX7_lowestOfMoves 31 = .ok (.i2l, 1) := by decide +kernel
theorem dX7_lowestOfMoves_32 : decode cX7_lowestOfMoves 32 = .ok (.lreturn, 1) := by decide +kernel
theorem dX7_commonDivisor_0 : decode cX7_commonDivisor 0 = .ok (.iload_n 0, 1) := by decide +kernel
theorem dX7_commonDivisor_1 : decode cX7_commonDivisor 1 = .ok (.istore_n 2, 1) := by decide +kernel
theorem dX7_commonDivisor_2 : decode cX7_commonDivisor 2 = .ok (.iload_n 1, 1) := by decide +kernel
theorem dX7_commonDivisor_3 : decode cX7_commonDivisor 3 = .ok (.istore_n 3, 1) := by decide +kernel
theorem dX7_commonDivisor_4 : decode cX7_commonDivisor 4 = .ok (.iconst 0, 1) := by decide +kernel
theorem dX7_commonDivisor_5 : decode cX7_commonDivisor 5 = .ok (.istore 4, 2) := by decide +kernel
theorem dX7_commonDivisor_7 : decode cX7_commonDivisor 7 = .ok (.iload 4, 2) := by decide +kernel
theorem dX7_commonDivisor_9 : decode cX7_commonDivisor 9 = .ok (.bipush 100, 2) := by decide +kernel
theorem dX7_commonDivisor_11 : decode cX7_commonDivisor 11 = .ok (.if_icmp .ge 23, 3) := by decide +kernel
theorem dX7_commonDivisor_14 : decode cX7_commonDivisor 14 = .ok (.iload_n 3, 1) := by decide +kernel
theorem dX7_commonDivisor_15 : decode cX7_commonDivisor 15 = .ok (.ifCond .eq 19, 3) := by decide +kernel
theorem dX7_commonDivisor_18 : decode cX7_commonDivisor 18 = .ok (.iload_n 2, 1) := by decide +kernel
theorem dX7_commonDivisor_19 : decode cX7_commonDivisor 19 = .ok (.iload_n 3, 1) := by decide +kernel
theorem dX7_commonDivisor_20 : decode cX7_commonDivisor 20 = .ok (.irem, 1) := by decide +kernel
theorem dX7_commonDivisor_21 : decode cX7_commonDivisor 21 = .ok (.istore 5, 2) := by decide +kernel
theorem dX7_commonDivisor_23 : decode cX7_commonDivisor 23 = .ok (.iload_n 3, 1) := by decide +kernel
theorem dX7_commonDivisor_24 : decode cX7_commonDivisor 24 = .ok (.istore_n 2, 1) := by decide +kernel
theorem dX7_commonDivisor_25 : decode cX7_commonDivisor 25 = .ok (.iload 5, 2) := by decide +kernel
theorem dX7_commonDivisor_27 : decode cX7_commonDivisor 27 = .ok (.istore_n 3, 1) := by decide +kernel
theorem dX7_commonDivisor_28 : decode cX7_commonDivisor 28 = .ok (.iinc 4 1, 3) := by decide +kernel
theorem dX7_commonDivisor_31 : decode cX7_commonDivisor 31 = .ok (.goto (-24), 3) := by decide +kernel
theorem dX7_commonDivisor_34 : decode cX7_commonDivisor 34 = .ok (.iload_n 2, 1) := by decide +kernel
theorem dX7_commonDivisor_35 : decode cX7_commonDivisor 35 = .ok (.ireturn, 1) := by decide +kernel
theorem dX7_event_0 : decode cX7_event 0 = .ok (.iload_n 1, 1) := by decide +kernel
theorem dX7_event_1 : decode cX7_event 1 = .ok (.tableswitch 118 (-1) 2 #[31, 42, 68, 94], 31) := by decide +kernel
theorem dX7_event_32 : decode cX7_event 32 = .ok (.aload_n 0, 1) := by decide +kernel
theorem dX7_event_33 : decode cX7_event 33 = .ok (.getfield 14, 3) := by decide +kernel
theorem dX7_event_36 : decode cX7_event 36 = .ok (.getfield 226, 3) := by decide +kernel
theorem dX7_event_39 : decode cX7_event 39 = .ok (.invokevirtual 195, 3) := by decide +kernel
theorem dX7_event_42 : decode cX7_event 42 = .ok (.ireturn, 1) := by decide +kernel
theorem dX7_event_43 : decode cX7_event 43 = .ok (.iload_n 2, 1) := by decide +kernel
theorem dX7_event_44 : decode cX7_event 44 = .ok (.invokestatic 46, 3) := by decide +kernel
theorem dX7_event_47 : decode cX7_event 47 = .ok (.ifCond .eq 20, 3) := by decide +kernel
theorem dX7_event_50 : decode cX7_event 50 = .ok (.aload_n 0, 1) := by decide +kernel
theorem dX7_event_51 : decode cX7_event 51 = .ok (.getfield 14, 3) := by decide +kernel
theorem dX7_event_54 : decode cX7_event 54 = .ok (.getfield 226, 3) := by decide +kernel
theorem dX7_event_57 : decode cX7_event 57 = .ok (.iload_n 1, 1) := by decide +kernel
theorem dX7_event_58 : decode cX7_event 58 = .ok (.iload_n 2, 1) := by decide +kernel
theorem dX7_event_59 : decode cX7_event 59 = .ok (.bipush 8, 2) := by decide +kernel
theorem dX7_event_61 : decode cX7_event 61 = .ok (.invokevirtual 200, 3) := by decide +kernel
theorem dX7_event_64 : decode cX7_event 64 = .ok (.goto 4, 3) := by decide +kernel
theorem dX7_event_67 : decode cX7_event 67 = .ok (.iconst (-1), 1) := by decide +kernel
theorem dX7_event_68 : decode cX7_event 68 = .ok (.ireturn, 1) := by decide +kernel
theorem dX7_event_69 : decode cX7_event 69 = .ok (.iload_n 2, 1) := by decide +kernel
theorem dX7_event_70 : decode cX7_event 70 = .ok (.invokestatic 61, 3) := by decide +kernel
theorem dX7_event_73 : decode cX7_event 73 = .ok (.ifCond .eq 20, 3) := by decide +kernel
theorem dX7_event_76 : decode cX7_event 76 = .ok (.aload_n 0, 1) := by decide +kernel
theorem dX7_event_77 : decode cX7_event 77 = .ok (.getfield 14, 3) := by decide +kernel
theorem dX7_event_80 : decode cX7_event 80 = .ok (.getfield 226, 3) := by decide +kernel
theorem dX7_event_83 : decode cX7_event 83 = .ok (.iload_n 1, 1) := by decide +kernel
theorem dX7_event_84 : decode cX7_event 84 = .ok (.iload_n 2, 1) := by decide +kernel
theorem dX7_event_85 : decode cX7_event 85 = .ok (.bipush 8, 2) := by decide +kernel
theorem dX7_event_87 : decode cX7_event 87 = .ok (.invokevirtual 200, 3) := by decide +kernel
theorem dX7_event_90 : decode cX7_event 90 = .ok (.goto 4, 3) := by decide +kernel
theorem dX7_event_93 : decode cX7_event 93 = .ok (.iconst (-1), 1) := by decide +kernel
theorem dX7_event_94 : decode cX7_event 94 = .ok (.ireturn, 1) := by decide +kernel
theorem dX7_event_95 : decode cX7_event 95 = .ok (.iload_n 2, 1) := by decide +kernel
theorem dX7_event_96 : decode cX7_event 96 = .ok (.ifCond .ne 20, 3) := by decide +kernel
theorem dX7_event_99 : decode cX7_event 99 = .ok (.aload_n 0, 1) := by decide +kernel
theorem dX7_event_100 : decode cX7_event 100 = .ok (.getfield 14, 3) := by decide +kernel
theorem dX7_event_103 : decode cX7_event 103 = .ok (.getfield 226, 3) := by decide +kernel
theorem dX7_event_106 : decode cX7_event 106 = .ok (.iload_n 1, 1) := by decide +kernel
theorem dX7_event_107 : decode cX7_event 107 = .ok (.iload_n 2, 1) := by decide +kernel
theorem dX7_event_108 : decode cX7_event 108 = .ok (.bipush 8, 2) := by decide +kernel
theorem dX7_event_110 : decode cX7_event 110 = .ok (.invokevirtual 200, 3) := by decide +kernel
theorem dX7_event_113 : decode cX7_event 113 = .ok (.goto 5, 3) := by decide +kernel
theorem dX7_event_116 : decode cX7_event 116 = .ok (.bipush (-2), 2) := by decide +kernel
theorem dX7_event_118 : decode cX7_event 118 = .ok (.ireturn, 1) := by decide +kernel
theorem dX7_event_119 : decode cX7_event 119 = .ok (.iconst (-1), 1) := by decide +kernel
theorem dX7_event_120 : decode cX7_event 120 = .ok (.ireturn, 1) := by decide +kernel
theorem dX7_after_0 : decode cX7_after 0 = .ok (.iload_n 1, 1) := by decide +kernel
theorem dX7_after_1 : decode cX7_after 1 = .ok (.tableswitch 52 0 2 #[27, 32, 44], 27) := by decide +kernel
theorem dX7_after_28 : decode cX7_after 28 = .ok (.aload_n 0, 1) := by decide +kernel
theorem dX7_after_29 : decode cX7_after 29 = .ok (.invokevirtual 229, 3) := by decide +kernel
theorem dX7_after_32 : decode cX7_after 32 = .ok (.ireturn, 1) := by decide +kernel
theorem dX7_after_33 : decode cX7_after 33 = .ok (.aload_n 0, 1) := by decide +kernel
theorem dX7_after_34 : decode cX7_after 34 = .ok (.getfield 35, 3) := by decide +kernel
theorem dX7_after_37 : decode cX7_after 37 = .ok (.aload_n 0, 1) := by decide +kernel
theorem dX7_after_38 : decode cX7_after 38 = .ok (.invokevirtual 229, 3) := by decide +kernel
theorem dX7_after_41 : decode cX7_after 41 = .ok (.invokevirtual 120, 3) := by decide +kernel
theorem dX7_after_44 : decode cX7_after 44 = .ok (.ireturn, 1) := by decide +kernel
theorem dX7_after_45 : decode cX7_after 45 = .ok (.aload_n 0, 1) := by decide +kernel
theorem dX7_after_46 : decode cX7_after 46 = .ok (.invokevirtual 229, 3) := by decide +kernel
theorem dX7_after_49 : decode cX7_after 49 = .ok (.invokestatic 99, 3) := by decide +kernel
theorem dX7_after_52 : decode cX7_after 52 = .ok (.ireturn, 1) := by decide +kernel
theorem dX7_after_53 : decode cX7_after 53 = .ok (.iconst (-1), 1) := by decide +kernel
theorem dX7_after_54 : decode cX7_after 54 = .ok (.ireturn, 1) := by decide +kernel
theorem dX7_bodyAfterEvents_0 : decode cX7_bodyAfterEvents 0 = .ok (.aload_n 0, 1) := by decide +kernel
theorem dX7_bodyAfterEvents_1 : decode cX7_bodyAfterEvents 1 = .ok (.getfield 14, 3) := by decide +kernel
theorem dX7_bodyAfterEvents_4 : decode cX7_bodyAfterEvents 4 = .ok (.getfield 53, 3) := by decide +kernel
theorem dX7_bodyAfterEvents_7 : decode cX7_bodyAfterEvents 7 = .ok (.istore_n 1, 1) := by decide +kernel
theorem dX7_bodyAfterEvents_8 : decode cX7_bodyAfterEvents 8 = .ok (.iconst 0, 1) := by decide +kernel
theorem dX7_bodyAfterEvents_9 : decode cX7_bodyAfterEvents 9 = .ok (.istore_n 2, 1) := by decide +kernel
theorem dX7_bodyAfterEvents_10 : decode cX7_bodyAfterEvents 10 = .ok (.iload_n 2, 1) := by decide +kernel
theorem dX7_bodyAfterEvents_11 : decode cX7_bodyAfterEvents 11 = .ok (.aload_n 0, 1) := by decide +kernel
theorem dX7_bodyAfterEvents_12 : decode cX7_bodyAfterEvents 12 = .ok (.getfield 14, 3) := by decide +kernel
theorem dX7_bodyAfterEvents_15 : decode cX7_bodyAfterEvents 15 = .ok (.getfield 226, 3) := by decide +kernel
theorem dX7_bodyAfterEvents_18 : decode cX7_bodyAfterEvents 18 = .ok (.getfield 206, 3) := by decide +kernel
theorem dX7_bodyAfterEvents_21 : decode cX7_bodyAfterEvents 21 = .ok (.if_icmp .ge 81, 3) := by decide +kernel
theorem dX7_bodyAfterEvents_24 : decode cX7_bodyAfterEvents 24 = .ok (.aload_n 0, 1) := by decide +kernel
theorem dX7_bodyAfterEvents_25 : decode cX7_bodyAfterEvents 25 = .ok (.getfield 14, 3) := by decide +kernel
theorem dX7_bodyAfterEvents_28 : decode cX7_bodyAfterEvents 28 = .ok (.getfield 226, 3) := by decide +kernel
theorem dX7_bodyAfterEvents_31 : decode cX7_bodyAfterEvents 31 = .ok (.iload_n 2, 1) := by decide +kernel
theorem dX7_bodyAfterEvents_32 : decode cX7_bodyAfterEvents 32 = .ok (.invokevirtual 213, 3) := by decide +kernel
theorem dX7_bodyAfterEvents_35 : decode cX7_bodyAfterEvents 35 = .ok (.istore_n 3, 1) := by decide +kernel
theorem dX7_bodyAfterEvents_36 : decode cX7_bodyAfterEvents 36 = .ok (.aload_n 0, 1) := by decide +kernel
theorem dX7_bodyAfterEvents_37 : decode cX7_bodyAfterEvents 37 = .ok (.getfield 14, 3) := by decide +kernel
theorem dX7_bodyAfterEvents_40 : decode cX7_bodyAfterEvents 40 = .ok (.getfield 226, 3) := by decide +kernel
theorem dX7_bodyAfterEvents_43 : decode cX7_bodyAfterEvents 43 = .ok (.iload_n 2, 1) := by decide +kernel
theorem dX7_bodyAfterEvents_44 : decode cX7_bodyAfterEvents 44 = .ok (.invokevirtual 207, 3) := by decide +kernel
theorem dX7_bodyAfterEvents_47 : decode cX7_bodyAfterEvents 47 = .ok (.lookupswitch 43 #[(0, 25), (1, 34)], 25) := by decide +kernel
theorem dX7_bodyAfterEvents_72 : decode cX7_bodyAfterEvents 72 = .ok (.iload_n 1, 1) := by decide +kernel
theorem dX7_bodyAfterEvents_73 : decode cX7_bodyAfterEvents 73 = .ok (.iconst 1, 1) := by decide +kernel
theorem dX7_bodyAfterEvents_74 : decode cX7_bodyAfterEvents 74 = .ok (.iload_n 3, 1) := by decide +kernel
theorem dX7_bodyAfterEvents_75 : decode cX7_bodyAfterEvents 75 = .ok (.ishl, 1) := by decide +kernel
theorem dX7_bodyAfterEvents_76 : decode cX7_bodyAfterEvents 76 = .ok (.ixor, 1) := by decide +kernel
theorem dX7_bodyAfterEvents_77 : decode cX7_bodyAfterEvents 77 = .ok (.istore_n 1, 1) := by decide +kernel
theorem dX7_bodyAfterEvents_78 : decode cX7_bodyAfterEvents 78 = .ok (.goto 18, 3) := by decide +kernel
theorem dX7_bodyAfterEvents_81 : decode cX7_bodyAfterEvents 81 = .ok (.iload_n 3, 1) := by decide +kernel
theorem dX7_bodyAfterEvents_82 : decode cX7_bodyAfterEvents 82 = .ok (.iload_n 1, 1) := by decide +kernel
theorem dX7_bodyAfterEvents_83 : decode cX7_bodyAfterEvents 83 = .ok (.invokestatic 64, 3) := by decide +kernel
theorem dX7_bodyAfterEvents_86 : decode cX7_bodyAfterEvents 86 = .ok (.istore_n 1, 1) := by decide +kernel
theorem dX7_bodyAfterEvents_87 : decode cX7_bodyAfterEvents 87 = .ok (.goto 9, 3) := by decide +kernel
theorem dX7_bodyAfterEvents_90 : decode cX7_bodyAfterEvents 90 = .ok (.iload_n 1, 1) := by decide +kernel
theorem dX7_bodyAfterEvents_91 : decode cX7_bodyAfterEvents 91 = .ok (.sipush 255, 3) := by decide +kernel
theorem dX7_bodyAfterEvents_94 : decode cX7_bodyAfterEvents 94 = .ok (.ixor, 1) := by decide +kernel
theorem dX7_bodyAfterEvents_95 : decode cX7_bodyAfterEvents 95 = .ok (.istore_n 1, 1) := by decide +kernel
theorem dX7_bodyAfterEvents_96 : decode cX7_bodyAfterEvents 96 = .ok (.iinc 2 1, 3) := by decide +kernel
theorem dX7_bodyAfterEvents_99 : decode cX7_bodyAfterEvents 99 = .ok (.goto (-89), 3) := by decide +kernel
theorem dX7_bodyAfterEvents_102 : decode cX7_bodyAfterEvents 102 = .ok (.iload_n 1, 1) := by decide +kernel
theorem dX7_bodyAfterEvents_103 : decode cX7_bodyAfterEvents 103 = .ok (.ireturn, 1) := by decide +kernel
theorem dX7_book_0 : decode cX7_book 0 = .ok (.iload_n 1, 1) := by decide +kernel
theorem dX7_book_1 : decode cX7_book 1 = .ok (.iconst (-1), 1) := by decide +kernel
theorem dX7_book_2 : decode cX7_book 2 = .ok (.if_icmp .ne 14, 3) := by decide +kernel
theorem dX7_book_5 : decode cX7_book 5 = .ok (.aload_n 0, 1) := by decide +kernel
theorem dX7_book_6 : decode cX7_book 6 = .ok (.getfield 14, 3) := by decide +kernel
theorem dX7_book_9 : decode cX7_book 9 = .ok (.getfield 232, 3) := by decide +kernel
theorem dX7_book_12 : decode cX7_book 12 = .ok (.invokevirtual 195, 3) := by decide +kernel
theorem dX7_book_15 : decode cX7_book 15 = .ok (.ireturn, 1) := by decide +kernel
theorem dX7_book_16 : decode cX7_book 16 = .ok (.iload_n 1, 1) := by decide +kernel
theorem dX7_book_17 : decode cX7_book 17 = .ok (.invokestatic 46, 3) := by decide +kernel
theorem dX7_book_20 : decode cX7_book 20 = .ok (.ifCond .ne 5, 3) := by decide +kernel
theorem dX7_book_23 : decode cX7_book 23 = .ok (.iconst (-1), 1) := by decide +kernel
theorem dX7_book_24 : decode cX7_book 24 = .ok (.ireturn, 1) := by decide +kernel
theorem dX7_book_25 : decode cX7_book 25 = .ok (.iload_n 2, 1) := by decide +kernel
theorem dX7_book_26 : decode cX7_book 26 = .ok (.invokestatic 50, 3) := by decide +kernel
theorem dX7_book_29 : decode cX7_book 29 = .ok (.ifCond .eq 20, 3) := by decide +kernel
theorem dX7_book_32 : decode cX7_book 32 = .ok (.aload_n 0, 1) := by decide +kernel
theorem dX7_book_33 : decode cX7_book 33 = .ok (.getfield 14, 3) := by decide +kernel
theorem dX7_book_36 : decode cX7_book 36 = .ok (.getfield 232, 3) := by decide +kernel
theorem dX7_book_39 : decode cX7_book 39 = .ok (.iload_n 1, 1) := by decide +kernel
theorem dX7_book_40 : decode cX7_book 40 = .ok (.iload_n 2, 1) := by decide +kernel
theorem dX7_book_41 : decode cX7_book 41 = .ok (.bipush 8, 2) := by decide +kernel
theorem dX7_book_43 : decode cX7_book 43 = .ok (.invokevirtual 200, 3) := by decide +kernel
theorem dX7_book_46 : decode cX7_book 46 = .ok (.goto 5, 3) := by decide +kernel
theorem dX7_book_49 : decode cX7_book 49 = .ok (.bipush (-2), 2) := by decide +kernel
theorem dX7_book_51 : decode cX7_book 51 = .ok (.ireturn, 1) := by decide +kernel
theorem dX7_looked_0 : decode cX7_looked 0 = .ok (.iconst 0, 1) := by decide +kernel
theorem dX7_looked_1 : decode cX7_looked 1 = .ok (.istore_n 1, 1) := by decide +kernel
theorem dX7_looked_2 : decode cX7_looked 2 = .ok (.iload_n 1, 1) := by decide +kernel
theorem dX7_looked_3 : decode cX7_looked 3 = .ok (.aload_n 0, 1) := by decide +kernel
theorem dX7_looked_4 : decode cX7_looked 4 = .ok (.getfield 14, 3) := by decide +kernel
theorem dX7_looked_7 : decode cX7_looked 7 = .ok (.getfield 232, 3) := by decide +kernel
theorem dX7_looked_10 : decode cX7_looked 10 = .ok (.getfield 206, 3) := by decide +kernel
theorem dX7_looked_13 : decode cX7_looked 13 = .ok (.if_icmp .ge 46, 3) := by decide +kernel
theorem dX7_looked_16 : decode cX7_looked 16 = .ok (.aload_n 0, 1) := by decide +kernel
theorem dX7_looked_17 : decode cX7_looked 17 = .ok (.getfield 14, 3) := by decide +kernel
theorem dX7_looked_20 : decode cX7_looked 20 = .ok (.getfield 53, 3) := by decide +kernel
theorem dX7_looked_23 : decode cX7_looked 23 = .ok (.aload_n 0, 1) := by decide +kernel
theorem dX7_looked_24 : decode cX7_looked 24 = .ok (.getfield 14, 3) := by decide +kernel
theorem dX7_looked_27 : decode cX7_looked 27 = .ok (.getfield 232, 3) := by decide +kernel
theorem dX7_looked_30 : decode cX7_looked 30 = .ok (.iload_n 1, 1) := by decide +kernel
theorem dX7_looked_31 : decode cX7_looked 31 = .ok (.invokevirtual 207, 3) := by decide +kernel
theorem dX7_looked_34 : decode cX7_looked 34 = .ok (.invokestatic 57, 3) := by decide +kernel
theorem dX7_looked_37 : decode cX7_looked 37 = .ok (.aload_n 0, 1) := by decide +kernel
theorem dX7_looked_38 : decode cX7_looked 38 = .ok (.getfield 14, 3) := by decide +kernel
theorem dX7_looked_41 : decode cX7_looked 41 = .ok (.getfield 232, 3) := by decide +kernel
theorem dX7_looked_44 : decode cX7_looked 44 = .ok (.iload_n 1, 1) := by decide +kernel
theorem dX7_looked_45 : decode cX7_looked 45 = .ok (.invokevirtual 213, 3) := by decide +kernel
theorem dX7_looked_48 : decode cX7_looked 48 = .ok (.if_icmp .eq 5, 3) := by decide +kernel
theorem dX7_looked_51 : decode cX7_looked 51 = .ok (.iload_n 1, 1) := by decide +kernel
theorem dX7_looked_52 : decode cX7_looked 52 = .ok (.ireturn, 1) := by decide +kernel
theorem dX7_looked_53 : decode cX7_looked 53 = .ok (.iinc 1 1, 3) := by decide +kernel
theorem dX7_looked_56 : decode cX7_looked 56 = .ok (.goto (-54), 3) := by decide +kernel
theorem dX7_looked_59 : decode cX7_looked 59 = .ok (.bipush (-5), 2) := by decide +kernel
theorem dX7_looked_61 : decode cX7_looked 61 = .ok (.ireturn, 1) := by decide +kernel
theorem dX7_judge_0 : decode cX7_judge 0 = .ok (.iload_n 1, 1) := by decide +kernel
theorem dX7_judge_1 : decode cX7_judge 1 = .ok (.invokestatic 235, 3) := by decide +kernel
theorem dX7_judge_4 : decode cX7_judge 4 = .ok (.ifCond .ne 5, 3) := by decide +kernel
theorem dX7_judge_7 : decode cX7_judge 7 = .ok (.iconst (-1), 1) := by decide +kernel
theorem dX7_judge_8 : decode cX7_judge 8 = .ok (.ireturn, 1) := by decide +kernel
theorem dX7_judge_9 : decode cX7_judge 9 = .ok (.aload_n 0, 1) := by decide +kernel
theorem dX7_judge_10 : decode cX7_judge 10 = .ok (.getfield 41, 3) := by decide +kernel
theorem dX7_judge_13 : decode cX7_judge 13 = .ok (.iload_n 1, 1) := by decide +kernel
theorem dX7_judge_14 : decode cX7_judge 14 = .ok (.aaload, 1) := by decide +kernel
theorem dX7_judge_15 : decode cX7_judge 15 = .ok (.astore_n 3, 1) := by decide +kernel
theorem dX7_judge_16 : decode cX7_judge 16 = .ok (.aload_n 3, 1) := by decide +kernel
theorem dX7_judge_17 : decode cX7_judge 17 = .ok (.invokevirtual 238, 3) := by decide +kernel
theorem dX7_judge_20 : decode cX7_judge 20 = .ok (.ifCond .ne 6, 3) := by decide +kernel
theorem dX7_judge_23 : decode cX7_judge 23 = .ok (.bipush 100, 2) := by decide +kernel
theorem dX7_judge_25 : decode cX7_judge 25 = .ok (.ireturn, 1) := by decide +kernel
theorem dX7_judge_26 : decode cX7_judge 26 = .ok (.aload_n 3, 1) := by decide +kernel
theorem dX7_judge_27 : decode cX7_judge 27 = .ok (.getfield 242, 3) := by decide +kernel
theorem dX7_judge_30 : decode cX7_judge 30 = .ok (.iconst 4, 1) := by decide +kernel
theorem dX7_judge_31 : decode cX7_judge 31 = .ok (.if_icmp .eq 6, 3) := by decide +kernel
theorem dX7_judge_34 : decode cX7_judge 34 = .ok (.bipush (-12), 2) := by decide +kernel
theorem dX7_judge_36 : decode cX7_judge 36 = .ok (.ireturn, 1) := by decide +kernel
theorem dX7_judge_37 : decode cX7_judge 37 = .ok (.iconst 0, 1) := by decide +kernel
theorem dX7_judge_38 : decode cX7_judge 38 = .ok (.istore 4, 2) := by decide +kernel
theorem dX7_judge_40 : decode cX7_judge 40 = .ok (.iload 4, 2) := by decide +kernel
theorem dX7_judge_42 : decode cX7_judge 42 = .ok (.bipush 8, 2) := by decide +kernel
theorem dX7_judge_44 : decode cX7_judge 44 = .ok (.if_icmp .ge 62, 3) := by decide +kernel
theorem dX7_judge_47 : decode cX7_judge 47 = .ok (.aload_n 3, 1) := by decide +kernel
theorem dX7_judge_48 : decode cX7_judge 48 = .ok (.iload_n 2, 1) := by decide +kernel
theorem dX7_judge_49 : decode cX7_judge 49 = .ok (.invokevirtual 245, 3) := by decide +kernel
theorem dX7_judge_52 : decode cX7_judge 52 = .ok (.ifCond .eq 14, 3) := by decide +kernel
theorem dX7_judge_55 : decode cX7_judge 55 = .ok (.aload_n 3, 1) := by decide +kernel
theorem dX7_judge_56 : decode cX7_judge 56 = .ok (.iload_n 2, 1) := by decide +kernel
theorem dX7_judge_57 : decode cX7_judge 57 = .ok (.iload 4, 2) := by decide +kernel
theorem dX7_judge_59 : decode cX7_judge 59 = .ok (.iadd, 1) := by decide +kernel
theorem dX7_judge_60 : decode cX7_judge 60 = .ok (.invokevirtual 245, 3) := by decide +kernel
theorem dX7_judge_63 : decode cX7_judge 63 = .ok (.ifCond .ne 9, 3) := by decide +kernel
theorem dX7_judge_66 : decode cX7_judge 66 = .ok (.bipush 100, 2) := by decide +kernel
theorem dX7_judge_68 : decode cX7_judge 68 = .ok (.iload 4, 2) := by decide +kernel
theorem dX7_judge_70 : decode cX7_judge 70 = .ok (.iadd, 1) := by decide +kernel
theorem dX7_judge_71 : decode cX7_judge 71 = .ok (.ireturn, 1) := by decide +kernel
theorem dX7_judge_72 : decode cX7_judge 72 = .ok (.aload_n 3, 1) := by decide +kernel
theorem dX7_judge_73 : decode cX7_judge 73 = .ok (.iload_n 2, 1) := by decide +kernel
theorem dX7_judge_74 : decode cX7_judge 74 = .ok (.iload 4, 2) := by decide +kernel
theorem dX7_judge_76 : decode cX7_judge 76 = .ok (.iadd, 1) := by decide +kernel
theorem dX7_judge_77 : decode cX7_judge 77 = .ok (.invokevirtual 248, 3) := by decide +kernel
theorem dX7_judge_80 : decode cX7_judge 80 = .ok (.aload_n 0, 1) := by decide +kernel
theorem dX7_judge_81 : decode cX7_judge 81 = .ok (.getfield 14, 3) := by decide +kernel
theorem dX7_judge_84 : decode cX7_judge 84 = .ok (.getfield 53, 3) := by decide +kernel
theorem dX7_judge_87 : decode cX7_judge 87 = .ok (.iload 4, 2) := by decide +kernel
theorem dX7_judge_89 : decode cX7_judge 89 = .ok (.invokestatic 57, 3) := by decide +kernel
theorem dX7_judge_92 : decode cX7_judge 92 = .ok (.i2l, 1) := by decide +kernel
theorem dX7_judge_93 : decode cX7_judge 93 = .ok (.lcmp, 1) := by decide +kernel
theorem dX7_judge_94 : decode cX7_judge 94 = .ok (.ifCond .eq 6, 3) := by decide +kernel
theorem dX7_judge_97 : decode cX7_judge 97 = .ok (.iload 4, 2) := by decide +kernel
theorem dX7_judge_99 : decode cX7_judge 99 = .ok (.ireturn, 1) := by decide +kernel
theorem dX7_judge_100 : decode cX7_judge 100 = .ok (.iinc 4 1, 3) := by decide +kernel
theorem dX7_judge_103 : decode cX7_judge 103 = .ok (.goto (-63), 3) := by decide +kernel
theorem dX7_judge_106 : decode cX7_judge 106 = .ok (.bipush (-5), 2) := by decide +kernel
theorem dX7_judge_108 : decode cX7_judge 108 = .ok (.ireturn, 1) := by decide +kernel
theorem dX7_image_0 : decode cX7_image 0 = .ok (.aload_n 0, 1) := by decide +kernel
theorem dX7_image_1 : decode cX7_image 1 = .ok (.getfield 18, 3) := by decide +kernel
theorem dX7_image_4 : decode cX7_image 4 = .ok (.aload_n 0, 1) := by decide +kernel
theorem dX7_image_5 : decode cX7_image 5 = .ok (.getfield 14, 3) := by decide +kernel
theorem dX7_image_8 : decode cX7_image 8 = .ok (.invokevirtual 252, 3) := by decide +kernel
theorem dX7_image_11 : decode cX7_image 11 = .ok (.aload_n 0, 1) := by decide +kernel
theorem dX7_image_12 : decode cX7_image 12 = .ok (.iconst 1, 1) := by decide +kernel
theorem dX7_image_13 : decode cX7_image 13 = .ok (.putfield 21, 3) := by decide +kernel
theorem dX7_image_16 : decode cX7_image 16 = .ok (.aload_n 0, 1) := by decide +kernel
theorem dX7_image_17 : decode cX7_image 17 = .ok (.getfield 14, 3) := by decide +kernel
theorem dX7_image_20 : decode cX7_image 20 = .ok (.getfield 53, 3) := by decide +kernel
theorem dX7_image_23 : decode cX7_image 23 = .ok (.ireturn, 1) := by decide +kernel
theorem dX7_undo_0 : decode cX7_undo 0 = .ok (.aload_n 0, 1) := by decide +kernel
theorem dX7_undo_1 : decode cX7_undo 1 = .ok (.getfield 21, 3) := by decide +kernel
theorem dX7_undo_4 : decode cX7_undo 4 = .ok (.ifCond .ne 6, 3) := by decide +kernel
theorem dX7_undo_7 : decode cX7_undo 7 = .ok (.bipush (-3), 2) := by decide +kernel
theorem dX7_undo_9 : decode cX7_undo 9 = .ok (.ireturn, 1) := by decide +kernel
theorem dX7_undo_10 : decode cX7_undo 10 = .ok (.aload_n 0, 1) := by decide +kernel
theorem dX7_undo_11 : decode cX7_undo 11 = .ok (.getfield 14, 3) := by decide +kernel
theorem dX7_undo_14 : decode cX7_undo 14 = .ok (.aload_n 0, 1) := by decide +kernel
theorem dX7_undo_15 : decode cX7_undo 15 = .ok (.getfield 18, 3) := by decide +kernel
theorem dX7_undo_18 : decode cX7_undo 18 = .ok (.invokevirtual 252, 3) := by decide +kernel
theorem dX7_undo_21 : decode cX7_undo 21 = .ok (.aload_n 0, 1) := by decide +kernel
theorem dX7_undo_22 : decode cX7_undo 22 = .ok (.getfield 14, 3) := by decide +kernel
theorem dX7_undo_25 : decode cX7_undo 25 = .ok (.getfield 53, 3) := by decide +kernel
theorem dX7_undo_28 : decode cX7_undo 28 = .ok (.ireturn, 1) := by decide +kernel
theorem dX7_count_0 : decode cX7_count 0 = .ok (.iload_n 1, 1) := by decide +kernel
theorem dX7_count_1 : decode cX7_count 1 = .ok (.tableswitch 72 0 3 #[31, 42, 53, 64], 31) := by decide +kernel
theorem dX7_count_32 : decode cX7_count 32 = .ok (.aload_n 0, 1) := by decide +kernel
theorem dX7_count_33 : decode cX7_count 33 = .ok (.getfield 14, 3) := by decide +kernel
theorem dX7_count_36 : decode cX7_count 36 = .ok (.getfield 191, 3) := by decide +kernel
theorem dX7_count_39 : decode cX7_count 39 = .ok (.getfield 206, 3) := by decide +kernel
theorem dX7_count_42 : decode cX7_count 42 = .ok (.ireturn, 1) := by decide +kernel
theorem dX7_count_43 : decode cX7_count 43 = .ok (.aload_n 0, 1) := by decide +kernel
theorem dX7_count_44 : decode cX7_count 44 = .ok (.getfield 14, 3) := by decide +kernel
theorem dX7_count_47 : decode cX7_count 47 = .ok (.getfield 226, 3) := by decide +kernel
theorem dX7_count_50 : decode cX7_count 50 = .ok (.getfield 206, 3) := by decide +kernel
theorem dX7_count_53 : decode cX7_count 53 = .ok (.ireturn, 1) := by decide +kernel
theorem dX7_count_54 : decode cX7_count 54 = .ok (.aload_n 0, 1) := by decide +kernel
theorem dX7_count_55 : decode cX7_count 55 = .ok (.getfield 14, 3) := by decide +kernel
theorem dX7_count_58 : decode cX7_count 58 = .ok (.getfield 232, 3) := by decide +kernel
theorem dX7_count_61 : decode cX7_count 61 = .ok (.getfield 206, 3) := by decide +kernel
theorem dX7_count_64 : decode cX7_count 64 = .ok (.ireturn, 1) := by decide +kernel
theorem dX7_count_65 : decode cX7_count 65 = .ok (.aload_n 0, 1) := by decide +kernel
theorem dX7_count_66 : decode cX7_count 66 = .ok (.getfield 28, 3) := by decide +kernel
theorem dX7_count_69 : decode cX7_count 69 = .ok (.getfield 88, 3) := by decide +kernel
theorem dX7_count_72 : decode cX7_count 72 = .ok (.ireturn, 1) := by decide +kernel
theorem dX7_count_73 : decode cX7_count 73 = .ok (.bipush (-2), 2) := by decide +kernel
theorem dX7_count_75 : decode cX7_count 75 = .ok (.ireturn, 1) := by decide +kernel
theorem dX7_tape_0 : decode cX7_tape 0 = .ok (.iload_n 1, 1) := by decide +kernel
theorem dX7_tape_1 : decode cX7_tape 1 = .ok (.invokestatic 235, 3) := by decide +kernel
theorem dX7_tape_4 : decode cX7_tape 4 = .ok (.ifCond .ne 5, 3) := by decide +kernel
theorem dX7_tape_7 : decode cX7_tape 7 = .ok (.iconst (-1), 1) := by decide +kernel
theorem dX7_tape_8 : decode cX7_tape 8 = .ok (.ireturn, 1) := by decide +kernel
theorem dX7_tape_9 : decode cX7_tape 9 = .ok (.iload_n 2, 1) := by decide +kernel
theorem dX7_tape_10 : decode cX7_tape 10 = .ok (.iconst (-1), 1) := by decide +kernel
theorem dX7_tape_11 : decode cX7_tape 11 = .ok (.if_icmp .ne 16, 3) := by decide +kernel
theorem dX7_tape_14 : decode cX7_tape 14 = .ok (.aload_n 0, 1) := by decide +kernel
theorem dX7_tape_15 : decode cX7_tape 15 = .ok (.getfield 41, 3) := by decide +kernel
theorem dX7_tape_18 : decode cX7_tape 18 = .ok (.iload_n 1, 1) := by decide +kernel
theorem dX7_tape_19 : decode cX7_tape 19 = .ok (.aaload, 1) := by decide +kernel
theorem dX7_tape_20 : decode cX7_tape 20 = .ok (.iconst (-1), 1) := by decide +kernel
theorem dX7_tape_21 : decode cX7_tape 21 = .ok (.iconst 0, 1) := by decide +kernel
theorem dX7_tape_22 : decode cX7_tape 22 = .ok (.invokevirtual 256, 3) := by decide +kernel
theorem dX7_tape_25 : decode cX7_tape 25 = .ok (.iconst 1, 1) := by decide +kernel
theorem dX7_tape_26 : decode cX7_tape 26 = .ok (.ireturn, 1) := by decide +kernel
theorem dX7_tape_27 : decode cX7_tape 27 = .ok (.iload_n 2, 1) := by decide +kernel
theorem dX7_tape_28 : decode cX7_tape 28 = .ok (.ifCond .lt 14, 3) := by decide +kernel
theorem dX7_tape_31 : decode cX7_tape 31 = .ok (.iload_n 2, 1) := by decide +kernel
theorem dX7_tape_32 : decode cX7_tape 32 = .ok (.iconst 4, 1) := by decide +kernel
theorem dX7_tape_33 : decode cX7_tape 33 = .ok (.if_icmp .gt 9, 3) := by decide +kernel
theorem dX7_tape_36 : decode cX7_tape 36 = .ok (.iload_n 3, 1) := by decide +kernel
theorem dX7_tape_37 : decode cX7_tape 37 = .ok (.bipush 60, 2) := by decide +kernel
theorem dX7_tape_39 : decode cX7_tape 39 = .ok (.if_icmp .le 6, 3) := by decide +kernel
theorem dX7_tape_42 : decode cX7_tape 42 = .ok (.bipush (-2), 2) := by decide +kernel
theorem dX7_tape_44 : decode cX7_tape 44 = .ok (.ireturn, 1) := by decide +kernel
theorem dX7_tape_45 : decode cX7_tape 45 = .ok (.iload_n 3, 1) := by decide +kernel
theorem dX7_tape_46 : decode cX7_tape 46 = .ok (.ifCond .ge 6, 3) := by decide +kernel
theorem dX7_tape_49 : decode cX7_tape 49 = .ok (.bipush (-14), 2) := by decide +kernel
theorem dX7_tape_51 : decode cX7_tape 51 = .ok (.ireturn, 1) := by decide +kernel
theorem dX7_tape_52 : decode cX7_tape 52 = .ok (.aload_n 0, 1) := by decide +kernel
theorem dX7_tape_53 : decode cX7_tape 53 = .ok (.getfield 41, 3) := by decide +kernel
theorem dX7_tape_56 : decode cX7_tape 56 = .ok (.iload_n 1, 1) := by decide +kernel
theorem dX7_tape_57 : decode cX7_tape 57 = .ok (.aaload, 1) := by decide +kernel
theorem dX7_tape_58 : decode cX7_tape 58 = .ok (.iload_n 2, 1) := by decide +kernel
theorem dX7_tape_59 : decode cX7_tape 59 = .ok (.iload_n 3, 1) := by decide +kernel
theorem dX7_tape_60 : decode cX7_tape 60 = .ok (.invokevirtual 256, 3) := by decide +kernel
theorem dX7_tape_63 : decode cX7_tape 63 = .ok (.iconst 1, 1) := by decide +kernel
theorem dX7_tape_64 : decode cX7_tape 64 = .ok (.ireturn, 1) := by decide +kernel
theorem dX7_item_0 : decode cX7_item 0 = .ok (.iload_n 1, 1) := by decide +kernel
theorem dX7_item_1 : decode cX7_item 1 = .ok (.invokestatic 235, 3) := by decide +kernel
theorem dX7_item_4 : decode cX7_item 4 = .ok (.ifCond .ne 5, 3) := by decide +kernel
theorem dX7_item_7 : decode cX7_item 7 = .ok (.iconst (-1), 1) := by decide +kernel
theorem dX7_item_8 : decode cX7_item 8 = .ok (.ireturn, 1) := by decide +kernel
theorem dX7_item_9 : decode cX7_item 9 = .ok (.aload_n 0, 1) := by decide +kernel
theorem dX7_item_10 : decode cX7_item 10 = .ok (.getfield 41, 3) := by decide +kernel
theorem dX7_item_13 : decode cX7_item 13 = .ok (.iload_n 1, 1) := by decide +kernel
theorem dX7_item_14 : decode cX7_item 14 = .ok (.aaload, 1) := by decide +kernel
theorem dX7_item_15 : decode cX7_item 15 = .ok (.astore 5, 2) := by decide +kernel
theorem dX7_item_17 : decode cX7_item 17 = .ok (.aload 5, 2) := by decide +kernel
theorem dX7_item_19 : decode cX7_item 19 = .ok (.invokevirtual 238, 3) := by decide +kernel
theorem dX7_item_22 : decode cX7_item 22 = .ok (.ifCond .ne 6, 3) := by decide +kernel
theorem dX7_item_25 : decode cX7_item 25 = .ok (.bipush (-11), 2) := by decide +kernel
theorem dX7_item_27 : decode cX7_item 27 = .ok (.ireturn, 1) := by decide +kernel
theorem dX7_item_28 : decode cX7_item 28 = .ok (.aload 5, 2) := by decide +kernel
theorem dX7_item_30 : decode cX7_item 30 = .ok (.iload_n 2, 1) := by decide +kernel
theorem dX7_item_31 : decode cX7_item 31 = .ok (.invokevirtual 245, 3) := by decide +kernel
theorem dX7_item_34 : decode cX7_item 34 = .ok (.ifCond .ne 6, 3) := by decide +kernel
theorem dX7_item_37 : decode cX7_item 37 = .ok (.bipush (-13), 2) := by decide +kernel
theorem dX7_item_39 : decode cX7_item 39 = .ok (.ireturn, 1) := by decide +kernel
theorem dX7_item_40 : decode cX7_item 40 = .ok (.aload 5, 2) := by decide +kernel
theorem dX7_item_42 : decode cX7_item 42 = .ok (.iload_n 2, 1) := by decide +kernel
theorem dX7_item_43 : decode cX7_item 43 = .ok (.lload_n 3, 1) := by decide +kernel
theorem dX7_item_44 : decode cX7_item 44 = .ok (.invokevirtual 260, 3) := by decide +kernel
theorem dX7_item_47 : decode cX7_item 47 = .ok (.iconst 1, 1) := by decide +kernel
theorem dX7_item_48 : decode cX7_item 48 = .ok (.ireturn, 1) := by decide +kernel
theorem dX7_peek_0 : decode cX7_peek 0 = .ok (.iload_n 1, 1) := by decide +kernel
theorem dX7_peek_1 : decode cX7_peek 1 = .ok (.invokestatic 235, 3) := by decide +kernel
theorem dX7_peek_4 : decode cX7_peek 4 = .ok (.ifCond .eq 16, 3) := by decide +kernel
theorem dX7_peek_7 : decode cX7_peek 7 = .ok (.aload_n 0, 1) := by decide +kernel
theorem dX7_peek_8 : decode cX7_peek 8 = .ok (.getfield 41, 3) := by decide +kernel
theorem dX7_peek_11 : decode cX7_peek 11 = .ok (.iload_n 1, 1) := by decide +kernel
theorem dX7_peek_12 : decode cX7_peek 12 = .ok (.aaload, 1) := by decide +kernel
theorem dX7_peek_13 : decode cX7_peek 13 = .ok (.iload_n 2, 1) := by decide +kernel
theorem dX7_peek_14 : decode cX7_peek 14 = .ok (.invokevirtual 245, 3) := by decide +kernel
theorem dX7_peek_17 : decode cX7_peek 17 = .ok (.ifCond .ne 7, 3) := by decide +kernel
theorem dX7_peek_20 : decode cX7_peek 20 = .ok (.ldc2_w 181, 3) := by decide +kernel
theorem dX7_peek_23 : decode cX7_peek 23 = .ok (.lreturn, 1) := by decide +kernel
theorem dX7_peek_24 : decode cX7_peek 24 = .ok (.aload_n 0, 1) := by decide +kernel
theorem dX7_peek_25 : decode cX7_peek 25 = .ok (.getfield 41, 3) := by decide +kernel
theorem dX7_peek_28 : decode cX7_peek 28 = .ok (.iload_n 1, 1) := by decide +kernel
theorem dX7_peek_29 : decode cX7_peek 29 = .ok (.aaload, 1) := by decide +kernel
theorem dX7_peek_30 : decode cX7_peek 30 = .ok (.iload_n 2, 1) := by decide +kernel
theorem dX7_peek_31 : decode cX7_peek 31 = .ok (.invokevirtual 248, 3) := by decide +kernel
theorem dX7_peek_34 : decode cX7_peek 34 = .ok (.lreturn, 1) := by decide +kernel
theorem dX7_shift_0 : decode cX7_shift 0 = .ok (.iload_n 1, 1) := by decide +kernel
theorem dX7_shift_1 : decode cX7_shift 1 = .ok (.invokestatic 235, 3) := by decide +kernel
theorem dX7_shift_4 : decode cX7_shift 4 = .ok (.ifCond .eq 10, 3) := by decide +kernel
theorem dX7_shift_7 : decode cX7_shift 7 = .ok (.iload_n 3, 1) := by decide +kernel
theorem dX7_shift_8 : decode cX7_shift 8 = .ok (.invokestatic 235, 3) := by decide +kernel
theorem dX7_shift_11 : decode cX7_shift 11 = .ok (.ifCond .ne 5, 3) := by decide +kernel
theorem dX7_shift_14 : decode cX7_shift 14 = .ok (.iconst (-1), 1) := by decide +kernel
theorem dX7_shift_15 : decode cX7_shift 15 = .ok (.ireturn, 1) := by decide +kernel
theorem dX7_shift_16 : decode cX7_shift 16 = .ok (.aload_n 0, 1) := by decide +kernel
theorem dX7_shift_17 : decode cX7_shift 17 = .ok (.getfield 41, 3) := by decide +kernel
theorem dX7_shift_20 : decode cX7_shift 20 = .ok (.iload_n 1, 1) := by decide +kernel
theorem dX7_shift_21 : decode cX7_shift 21 = .ok (.aaload, 1) := by decide +kernel
theorem dX7_shift_22 : decode cX7_shift 22 = .ok (.astore 6, 2) := by decide +kernel
theorem dX7_shift_24 : decode cX7_shift 24 = .ok (.aload_n 0, 1) := by decide +kernel
theorem dX7_shift_25 : decode cX7_shift 25 = .ok (.getfield 41, 3) := by decide +kernel
theorem dX7_shift_28 : decode cX7_shift 28 = .ok (.iload_n 3, 1) := by decide +kernel
theorem dX7_shift_29 : decode cX7_shift 29 = .ok (.aaload, 1) := by decide +kernel
theorem dX7_shift_30 : decode cX7_shift 30 = .ok (.astore 7, 2) := by decide +kernel
theorem dX7_shift_32 : decode cX7_shift 32 = .ok (.aload 6, 2) := by decide +kernel
theorem dX7_shift_34 : decode cX7_shift 34 = .ok (.invokevirtual 238, 3) := by decide +kernel
theorem dX7_shift_37 : decode cX7_shift 37 = .ok (.ifCond .eq 11, 3) := by decide +kernel
theorem dX7_shift_40 : decode cX7_shift 40 = .ok (.aload 7, 2) := by decide +kernel
theorem dX7_shift_42 : decode cX7_shift 42 = .ok (.invokevirtual 238, 3) := by decide +kernel
theorem dX7_shift_45 : decode cX7_shift 45 = .ok (.ifCond .ne 6, 3) := by decide +kernel
theorem dX7_shift_48 : decode cX7_shift 48 = .ok (.bipush (-11), 2) := by decide +kernel
theorem dX7_shift_50 : decode cX7_shift 50 = .ok (.ireturn, 1) := by decide +kernel
theorem dX7_shift_51 : decode cX7_shift 51 = .ok (.aload 6, 2) := by decide +kernel
theorem dX7_shift_53 : decode cX7_shift 53 = .ok (.getfield 242, 3) := by decide +kernel
theorem dX7_shift_56 : decode cX7_shift 56 = .ok (.aload 7, 2) := by decide +kernel
theorem dX7_shift_58 : decode cX7_shift 58 = .ok (.getfield 242, 3) := by decide +kernel
theorem dX7_shift_61 : decode cX7_shift 61 = .ok (.if_icmp .eq 6, 3) := by decide +kernel
theorem dX7_shift_64 : decode cX7_shift 64 = .ok (.bipush (-12), 2) := by decide +kernel
theorem dX7_shift_66 : decode cX7_shift 66 = .ok (.ireturn, 1) := by decide +kernel
theorem dX7_shift_67 : decode cX7_shift 67 = .ok (.aload 6, 2) := by decide +kernel
theorem dX7_shift_69 : decode cX7_shift 69 = .ok (.iload_n 2, 1) := by decide +kernel
theorem dX7_shift_70 : decode cX7_shift 70 = .ok (.iload 5, 2) := by decide +kernel
theorem dX7_shift_72 : decode cX7_shift 72 = .ok (.invokevirtual 264, 3) := by decide +kernel
theorem dX7_shift_75 : decode cX7_shift 75 = .ok (.ifCond .eq 15, 3) := by decide +kernel
theorem dX7_shift_78 : decode cX7_shift 78 = .ok (.aload 7, 2) := by decide +kernel
theorem dX7_shift_80 : decode cX7_shift 80 = .ok (.iload 4, 2) := by decide +kernel
theorem dX7_shift_82 : decode cX7_shift 82 = .ok (.iload 5, 2) := by decide +kernel
theorem dX7_shift_84 : decode cX7_shift 84 = .ok (.invokevirtual 264, 3) := by decide +kernel
theorem dX7_shift_87 : decode cX7_shift 87 = .ok (.ifCond .ne 6, 3) := by decide +kernel
theorem dX7_shift_90 : decode cX7_shift 90 = .ok (.bipush (-13), 2) := by decide +kernel
theorem dX7_shift_92 : decode cX7_shift 92 = .ok (.ireturn, 1) := by decide +kernel
theorem dX7_shift_93 : decode cX7_shift 93 = .ok (.aload 6, 2) := by decide +kernel
theorem dX7_shift_95 : decode cX7_shift 95 = .ok (.getfield 267, 3) := by decide +kernel
theorem dX7_shift_98 : decode cX7_shift 98 = .ok (.iload_n 2, 1) := by decide +kernel
theorem dX7_shift_99 : decode cX7_shift 99 = .ok (.aload 7, 2) := by decide +kernel
theorem dX7_shift_101 : decode cX7_shift 101 = .ok (.getfield 267, 3) := by decide +kernel
theorem dX7_shift_104 : decode cX7_shift 104 = .ok (.iload 4, 2) := by decide +kernel
theorem dX7_shift_106 : decode cX7_shift 106 = .ok (.iload 5, 2) := by decide +kernel
theorem dX7_shift_108 : decode cX7_shift 108 = .ok (.invokestatic 271, 3) := by decide +kernel
theorem dX7_shift_111 : decode cX7_shift 111 = .ok (.iload 5, 2) := by decide +kernel
theorem dX7_shift_113 : decode cX7_shift 113 = .ok (.ireturn, 1) := by decide +kernel
theorem dX7_isCorner_0 : decode cX7_isCorner 0 = .ok (.iload_n 0, 1) := by decide +kernel
theorem dX7_isCorner_1 : decode cX7_isCorner 1 = .ok (.ifCond .lt 13, 3) := by decide +kernel
theorem dX7_isCorner_4 : decode cX7_isCorner 4 = .ok (.iload_n 0, 1) := by decide +kernel
theorem dX7_isCorner_5 : decode cX7_isCorner 5 = .ok (.bipush 8, 2) := by decide +kernel
theorem dX7_isCorner_7 : decode cX7_isCorner 7 = .ok (.if_icmp .ge 7, 3) := by decide +kernel
theorem dX7_isCorner_10 : decode cX7_isCorner 10 = .ok (.iconst 1, 1) := by decide +kernel
theorem dX7_isCorner_11 : decode cX7_isCorner 11 = .ok (.goto 4, 3) := by decide +kernel
theorem dX7_isCorner_14 : decode cX7_isCorner 14 = .ok (.iconst 0, 1) := by decide +kernel
theorem dX7_isCorner_15 : decode cX7_isCorner 15 = .ok (.ireturn, 1) := by decide +kernel
theorem dX7_isMove_0 : decode cX7_isMove 0 = .ok (.iload_n 0, 1) := by decide +kernel
theorem dX7_isMove_1 : decode cX7_isMove 1 = .ok (.ifCond .lt 13, 3) := by decide +kernel
theorem dX7_isMove_4 : decode cX7_isMove 4 = .ok (.iload_n 0, 1) := by decide +kernel
theorem dX7_isMove_5 : decode cX7_isMove 5 = .ok (.bipush 48, 2) := by decide +kernel
theorem dX7_isMove_7 : decode cX7_isMove 7 = .ok (.if_icmp .ge 7, 3) := by decide +kernel
theorem dX7_isMove_10 : decode cX7_isMove 10 = .ok (.iconst 1, 1) := by decide +kernel
theorem dX7_isMove_11 : decode cX7_isMove 11 = .ok (.goto 4, 3) := by decide +kernel
theorem dX7_isMove_14 : decode cX7_isMove 14 = .ok (.iconst 0, 1) := by decide +kernel
theorem dX7_isMove_15 : decode cX7_isMove 15 = .ok (.ireturn, 1) := by decide +kernel
theorem dX7_isBit_0 : decode cX7_isBit 0 = .ok (.iload_n 0, 1) := by decide +kernel
theorem dX7_isBit_1 : decode cX7_isBit 1 = .ok (.ifCond .eq 8, 3) := by decide +kernel
theorem dX7_isBit_4 : decode cX7_isBit 4 = .ok (.iload_n 0, 1) := by decide +kernel
theorem dX7_isBit_5 : decode cX7_isBit 5 = .ok (.iconst 1, 1) := by decide +kernel
theorem dX7_isBit_6 : decode cX7_isBit 6 = .ok (.if_icmp .ne 7, 3) := by decide +kernel
theorem dX7_isBit_9 : decode cX7_isBit 9 = .ok (.iconst 1, 1) := by decide +kernel
theorem dX7_isBit_10 : decode cX7_isBit 10 = .ok (.goto 4, 3) := by decide +kernel
theorem dX7_isBit_13 : decode cX7_isBit 13 = .ok (.iconst 0, 1) := by decide +kernel
theorem dX7_isBit_14 : decode cX7_isBit 14 = .ok (.ireturn, 1) := by decide +kernel
theorem dX7_isWeight_0 : decode cX7_isWeight 0 = .ok (.iload_n 0, 1) := by decide +kernel
theorem dX7_isWeight_1 : decode cX7_isWeight 1 = .ok (.bipush (-3), 2) := by decide +kernel
theorem dX7_isWeight_3 : decode cX7_isWeight 3 = .ok (.if_icmp .lt 12, 3) := by decide +kernel
theorem dX7_isWeight_6 : decode cX7_isWeight 6 = .ok (.iload_n 0, 1) := by decide +kernel
theorem dX7_isWeight_7 : decode cX7_isWeight 7 = .ok (.iconst 3, 1) := by decide +kernel
theorem dX7_isWeight_8 : decode cX7_isWeight 8 = .ok (.if_icmp .gt 7, 3) := by decide +kernel
theorem dX7_isWeight_11 : decode cX7_isWeight 11 = .ok (.iconst 1, 1) := by decide +kernel
theorem dX7_isWeight_12 : decode cX7_isWeight 12 = .ok (.goto 4, 3) := by decide +kernel
theorem dX7_isWeight_15 : decode cX7_isWeight 15 = .ok (.iconst 0, 1) := by decide +kernel
theorem dX7_isWeight_16 : decode cX7_isWeight 16 = .ok (.ireturn, 1) := by decide +kernel
theorem dX7_isTimes_0 : decode cX7_isTimes 0 = .ok (.iload_n 0, 1) := by decide +kernel
theorem dX7_isTimes_1 : decode cX7_isTimes 1 = .ok (.iconst 1, 1) := by decide +kernel
theorem dX7_isTimes_2 : decode cX7_isTimes 2 = .ok (.if_icmp .lt 12, 3) := by decide +kernel
theorem dX7_isTimes_5 : decode cX7_isTimes 5 = .ok (.iload_n 0, 1) := by decide +kernel
theorem dX7_isTimes_6 : decode cX7_isTimes 6 = .ok (.iconst 3, 1) := by decide +kernel
theorem dX7_isTimes_7 : decode cX7_isTimes 7 = .ok (.if_icmp .gt 7, 3) := by decide +kernel
theorem dX7_isTimes_10 : decode cX7_isTimes 10 = .ok (.iconst 1, 1) := by decide +kernel
theorem dX7_isTimes_11 : decode cX7_isTimes 11 = .ok (.goto 4, 3) := by decide +kernel
theorem dX7_isTimes_14 : decode cX7_isTimes 14 = .ok (.iconst 0, 1) := by decide +kernel
theorem dX7_isTimes_15 : decode cX7_isTimes 15 = .ok (.ireturn, 1) := by decide +kernel
theorem dX7_isPlace_0 : decode cX7_isPlace 0 = .ok (.iload_n 0, 1) := by decide +kernel
theorem dX7_isPlace_1 : decode cX7_isPlace 1 = .ok (.ifCond .lt 12, 3) := by decide +kernel
theorem dX7_isPlace_4 : decode cX7_isPlace 4 = .ok (.iload_n 0, 1) := by decide +kernel
theorem dX7_isPlace_5 : decode cX7_isPlace 5 = .ok (.iconst 3, 1) := by decide +kernel
theorem dX7_isPlace_6 : decode cX7_isPlace 6 = .ok (.if_icmp .gt 7, 3) := by decide +kernel
theorem dX7_isPlace_9 : decode cX7_isPlace 9 = .ok (.iconst 1, 1) := by decide +kernel
theorem dX7_isPlace_10 : decode cX7_isPlace 10 = .ok (.goto 4, 3) := by decide +kernel
theorem dX7_isPlace_13 : decode cX7_isPlace 13 = .ok (.iconst 0, 1) := by decide +kernel
theorem dX7_isPlace_14 : decode cX7_isPlace 14 = .ok (.ireturn, 1) := by decide +kernel
theorem dX7_isTape_0 : decode cX7_isTape 0 = .ok (.iload_n 0, 1) := by decide +kernel
theorem dX7_isTape_1 : decode cX7_isTape 1 = .ok (.ifCond .lt 13, 3) := by decide +kernel
theorem dX7_isTape_4 : decode cX7_isTape 4 = .ok (.iload_n 0, 1) := by decide +kernel
theorem dX7_isTape_5 : decode cX7_isTape 5 = .ok (.bipush 6, 2) := by decide +kernel
theorem dX7_isTape_7 : decode cX7_isTape 7 = .ok (.if_icmp .ge 7, 3) := by decide +kernel
theorem dX7_isTape_10 : decode cX7_isTape 10 = .ok (.iconst 1, 1) := by decide +kernel
theorem dX7_isTape_11 : decode cX7_isTape 11 = .ok (.goto 4, 3) := by decide +kernel
theorem dX7_isTape_14 : decode cX7_isTape 14 = .ok (.iconst 0, 1) := by decide +kernel
theorem dX7_isTape_15 : decode cX7_isTape 15 = .ok (.ireturn, 1) := by decide +kernel
theorem dX7_bitOf_0 : decode cX7_bitOf 0 = .ok (.iload_n 0, 1) := by decide +kernel
theorem dX7_bitOf_1 : decode cX7_bitOf 1 = .ok (.iload_n 1, 1) := by decide +kernel
theorem dX7_bitOf_2 : decode cX7_bitOf 2 = .ok (.ishr, 1) := by decide +kernel
theorem dX7_bitOf_3 : decode cX7_bitOf 3 = .ok (.iconst 1, 1) := by decide +kernel
theorem dX7_bitOf_4 : decode cX7_bitOf 4 = .ok (.iand, 1) := by decide +kernel
theorem dX7_bitOf_5 : decode cX7_bitOf 5 = .ok (.ireturn, 1) := by decide +kernel
