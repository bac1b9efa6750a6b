theorem dX8_far_16 : decode cX8_far 16 = .ok (.iload_n 2, 1) := by decide +kernel
theorem dX8_far_17 : decode cX8_far 17 = .ok (.invokevirtual 81, 3) := by decide +kernel
theorem dX8_far_20 : decode cX8_far 20 = .ok (.aload_n 0, 1) := by decide +kernel
theorem dX8_far_21 : decode cX8_far 21 = .ok (.getfield 132, 3) := by decide +kernel
theorem dX8_far_24 : decode cX8_far 24 = .ok (.ixor, 1) := by decide +kernel
theorem dX8_far_25 : decode cX8_far 25 = .ok (.invokestatic 105, 3) := by decide +kernel
theorem dX8_far_28 : decode cX8_far 28 = .ok (.istore_n 3, 1) := by decide +kernel
theorem dX8_far_29 : decode cX8_far 29 = .ok (.iload_n 3, 1) := by decide +kernel
theorem dX8_far_30 : decode cX8_far 30 = .ok (.iload_n 1, 1) := by decide +kernel
theorem dX8_far_31 : decode cX8_far 31 = .ok (.if_icmp .ge 7, 3) := by decide +kernel
theorem dX8_far_34 : decode cX8_far 34 = .ok (.iload_n 3, 1) := by decide +kernel
theorem dX8_far_35 : decode cX8_far 35 = .ok (.goto 4, 3) := by decide +kernel
theorem dX8_far_38 : decode cX8_far 38 = .ok (.iload_n 1, 1) := by decide +kernel
theorem dX8_far_39 : decode cX8_far 39 = .ok (.istore_n 1, 1) := by decide +kernel
theorem dX8_far_40 : decode cX8_far 40 = .ok (.iinc 2 1, 3) := by decide +kernel
theorem dX8_far_43 : decode cX8_far 43 = .ok (.goto (-38), 3) := by decide +kernel
theorem dX8_far_46 : decode cX8_far 46 = .ok (.iload_n 1, 1) := by decide +kernel
theorem dX8_far_47 : decode cX8_far 47 = .ok (.ireturn, 1) := by decide +kernel
theorem dX8_told_0 : decode cX8_told 0 = .ok (.iload_n 1, 1) := by decide +kernel
theorem dX8_told_1 : decode cX8_told 1 = .ok (.tableswitch 172 0 12 #[67, 72, 77, 85, 95, 105, 114, 123, 128, 137, 145, 156, 164], 67) := by decide +kernel
theorem dX8_told_68 : decode cX8_told 68 = .ok (.aload_n 0, 1) := by decide +kernel
theorem dX8_told_69 : decode cX8_told 69 = .ok (.getfield 125, 3) := by decide +kernel
theorem dX8_told_72 : decode cX8_told 72 = .ok (.ireturn, 1) := by decide +kernel
theorem dX8_told_73 : decode cX8_told 73 = .ok (.aload_n 0, 1) := by decide +kernel
theorem dX8_told_74 : decode cX8_told 74 = .ok (.getfield 132, 3) := by decide +kernel
theorem dX8_told_77 : decode cX8_told 77 = .ok (.ireturn, 1) := by decide +kernel
theorem dX8_told_78 : decode cX8_told 78 = .ok (.aload_n 0, 1) := by decide +kernel
theorem dX8_told_79 : decode cX8_told 79 = .ok (.getfield 125, 3) := by decide +kernel
theorem dX8_told_82 : decode cX8_told 82 = .ok (.invokestatic 105, 3) := by decide +kernel
theorem dX8_told_85 : decode cX8_told 85 = .ok (.ireturn, 1) := by decide +kernel
theorem dX8_told_86 : decode cX8_told 86 = .ok (.aload_n 0, 1) := by decide +kernel
theorem dX8_told_87 : decode cX8_told 87 = .ok (.getfield 19, 3) := by decide +kernel
theorem dX8_told_90 : decode cX8_told 90 = .ok (.aload_n 0, 1) := by decide +kernel
theorem dX8_told_91 : decode cX8_told 91 = .ok (.getfield 125, 3) := by decide +kernel
theorem dX8_told_94 : decode cX8_told 94 = .ok (.iaload, 1) := by decide +kernel
theorem dX8_told_95 : decode cX8_told 95 = .ok (.ireturn, 1) := by decide +kernel
theorem dX8_told_96 : decode cX8_told 96 = .ok (.aload_n 0, 1) := by decide +kernel
theorem dX8_told_97 : decode cX8_told 97 = .ok (.getfield 22, 3) := by decide +kernel
theorem dX8_told_100 : decode cX8_told 100 = .ok (.aload_n 0, 1) := by decide +kernel
theorem dX8_told_101 : decode cX8_told 101 = .ok (.getfield 125, 3) := by decide +kernel
theorem dX8_told_104 : decode cX8_told 104 = .ok (.iaload, 1) := by decide +kernel
theorem dX8_told_105 : decode cX8_told 105 = .ok (.ireturn, 1) := by decide +kernel
theorem dX8_told_106 : decode cX8_told 106 = .ok (.aload_n 0, 1) := by decide +kernel
theorem dX8_told_107 : decode cX8_told 107 = .ok (.aload_n 0, 1) := by decide +kernel
theorem dX8_told_108 : decode cX8_told 108 = .ok (.getfield 125, 3) := by decide +kernel
theorem dX8_told_111 : decode cX8_told 111 = .ok (.invokevirtual 177, 3) := by decide +kernel
theorem dX8_told_114 : decode cX8_told 114 = .ok (.ireturn, 1) := by decide +kernel
theorem dX8_told_115 : decode cX8_told 115 = .ok (.aload_n 0, 1) := by decide +kernel
theorem dX8_told_116 : decode cX8_told 116 = .ok (.aload_n 0, 1) := by decide +kernel
theorem dX8_told_117 : decode cX8_told 117 = .ok (.getfield 125, 3) := by decide +kernel
theorem dX8_told_120 : decode cX8_told 120 = .ok (.invokevirtual 180, 3) := by decide +kernel
theorem dX8_told_123 : decode cX8_told 123 = .ok (.ireturn, 1) := by decide +kernel
theorem dX8_told_124 : decode cX8_told 124 = .ok (.aload_n 0, 1) := by decide +kernel
theorem dX8_told_125 : decode cX8_told 125 = .ok (.invokevirtual 183, 3) := by decide +kernel
theorem dX8_told_128 : decode cX8_told 128 = .ok (.ireturn, 1) := by decide +kernel
theorem dX8_told_129 : decode cX8_told 129 = .ok (.aload_n 0, 1) := by decide +kernel
theorem dX8_told_130 : decode cX8_told 130 = .ok (.aload_n 0, 1) := by decide +kernel
theorem dX8_told_131 : decode cX8_told 131 = .ok (.getfield 125, 3) := by decide +kernel
theorem dX8_told_134 : decode cX8_told 134 = .ok (.invokevirtual 186, 3) := by decide +kernel
theorem dX8_told_137 : decode cX8_told 137 = .ok (.ireturn, 1) := by decide +kernel
theorem dX8_told_138 : decode cX8_told 138 = .ok (.aload_n 0, 1) := by decide +kernel
theorem dX8_told_139 : decode cX8_told 139 = .ok (.getfield 125, 3) := by decide +kernel
theorem dX8_told_142 : decode cX8_told 142 = .ok (.invokestatic 189, 3) := by decide +kernel
theorem dX8_told_145 : decode cX8_told 145 = .ok (.ireturn, 1) := by decide +kernel
theorem dX8_told_146 : decode cX8_told 146 = .ok (.aload_n 0, 1) := by decide +kernel
theorem dX8_told_147 : decode cX8_told 147 = .ok (.aload_n 0, 1) := by decide +kernel
theorem dX8_told_148 : decode cX8_told 148 = .ok (.getfield 125, 3) := by decide +kernel
theorem dX8_told_151 : decode cX8_told 151 = .ok (.invokevirtual 192, 3) := by decide +kernel
theorem dX8_told_154 : decode cX8_told 154 = .ok (.iconst 1, 1) := by decide +kernel
theorem dX8_told_155 : decode cX8_told 155 = .ok (.iadd, 1) := by decide +kernel
theorem dX8_told_156 : decode cX8_told 156 = .ok (.ireturn, 1) := by decide +kernel
theorem dX8_told_157 : decode cX8_told 157 = .ok (.aload_n 0, 1) := by decide +kernel
theorem dX8_told_158 : decode cX8_told 158 = .ok (.getfield 125, 3) := by decide +kernel
theorem dX8_told_161 : decode cX8_told 161 = .ok (.invokestatic 195, 3) := by decide +kernel
theorem dX8_told_164 : decode cX8_told 164 = .ok (.ireturn, 1) := by decide +kernel
theorem dX8_told_165 : decode cX8_told 165 = .ok (.aload_n 0, 1) := by decide +kernel
theorem dX8_told_166 : decode cX8_told 166 = .ok (.getfield 125, 3) := by decide +kernel
theorem dX8_told_169 : decode cX8_told 169 = .ok (.invokestatic 198, 3) := by decide +kernel
theorem dX8_told_172 : decode cX8_told 172 = .ok (.ireturn, 1) := by decide +kernel
theorem dX8_told_173 : decode cX8_told 173 = .ok (.iconst (-1), 1) := by decide +kernel
theorem dX8_told_174 : decode cX8_told 174 = .ok (.ireturn, 1) := by decide +kernel
theorem dX8_carried_0 : decode cX8_carried 0 = .ok (.iload_n 1, 1) := by decide +kernel
theorem dX8_carried_1 : decode cX8_carried 1 = .ok (.invokestatic 129, 3) := by decide +kernel
theorem dX8_carried_4 : decode cX8_carried 4 = .ok (.ifCond .eq 24, 3) := by decide +kernel
theorem dX8_carried_7 : decode cX8_carried 7 = .ok (.iload_n 2, 1) := by decide +kernel
theorem dX8_carried_8 : decode cX8_carried 8 = .ok (.invokestatic 122, 3) := by decide +kernel
theorem dX8_carried_11 : decode cX8_carried 11 = .ok (.ifCond .eq 17, 3) := by decide +kernel
theorem dX8_carried_14 : decode cX8_carried 14 = .ok (.aload_n 0, 1) := by decide +kernel
theorem dX8_carried_15 : decode cX8_carried 15 = .ok (.getfield 15, 3) := by decide +kernel
theorem dX8_carried_18 : decode cX8_carried 18 = .ok (.bipush 8, 2) := by decide +kernel
theorem dX8_carried_20 : decode cX8_carried 20 = .ok (.iload_n 1, 1) := by decide +kernel
theorem dX8_carried_21 : decode cX8_carried 21 = .ok (.imul, 1) := by decide +kernel
theorem dX8_carried_22 : decode cX8_carried 22 = .ok (.iload_n 2, 1) := by decide +kernel
theorem dX8_carried_23 : decode cX8_carried 23 = .ok (.iadd, 1) := by decide +kernel
theorem dX8_carried_24 : decode cX8_carried 24 = .ok (.iaload, 1) := by decide +kernel
theorem dX8_carried_25 : decode cX8_carried 25 = .ok (.goto 4, 3) := by decide +kernel
theorem dX8_carried_28 : decode cX8_carried 28 = .ok (.iconst (-1), 1) := by decide +kernel
theorem dX8_carried_29 : decode cX8_carried 29 = .ok (.ireturn, 1) := by decide +kernel
theorem dX8_imaged_0 : decode cX8_imaged 0 = .ok (.iload_n 1, 1) := by decide +kernel
theorem dX8_imaged_1 : decode cX8_imaged 1 = .ok (.invokestatic 129, 3) := by decide +kernel
theorem dX8_imaged_4 : decode cX8_imaged 4 = .ok (.ifCond .eq 15, 3) := by decide +kernel
theorem dX8_imaged_7 : decode cX8_imaged 7 = .ok (.aload_n 0, 1) := by decide +kernel
theorem dX8_imaged_8 : decode cX8_imaged 8 = .ok (.aload_n 0, 1) := by decide +kernel
theorem dX8_imaged_9 : decode cX8_imaged 9 = .ok (.getfield 125, 3) := by decide +kernel
theorem dX8_imaged_12 : decode cX8_imaged 12 = .ok (.iload_n 1, 1) := by decide +kernel
theorem dX8_imaged_13 : decode cX8_imaged 13 = .ok (.invokevirtual 81, 3) := by decide +kernel
theorem dX8_imaged_16 : decode cX8_imaged 16 = .ok (.goto 4, 3) := by decide +kernel
theorem dX8_imaged_19 : decode cX8_imaged 19 = .ok (.iconst (-1), 1) := by decide +kernel
theorem dX8_imaged_20 : decode cX8_imaged 20 = .ok (.ireturn, 1) := by decide +kernel
theorem dX8_form_0 : decode cX8_form 0 = .ok (.iload_n 1, 1) := by decide +kernel
theorem dX8_form_1 : decode cX8_form 1 = .ok (.ifCond .ge 5, 3) := by decide +kernel
theorem dX8_form_4 : decode cX8_form 4 = .ok (.iconst (-1), 1) := by decide +kernel
theorem dX8_form_5 : decode cX8_form 5 = .ok (.ireturn, 1) := by decide +kernel
theorem dX8_form_6 : decode cX8_form 6 = .ok (.iconst 0, 1) := by decide +kernel
theorem dX8_form_7 : decode cX8_form 7 = .ok (.istore_n 2, 1) := by decide +kernel
theorem dX8_form_8 : decode cX8_form 8 = .ok (.iload_n 2, 1) := by decide +kernel
theorem dX8_form_9 : decode cX8_form 9 = .ok (.sipush 256, 3) := by decide +kernel
theorem dX8_form_12 : decode cX8_form 12 = .ok (.if_icmp .ge 31, 3) := by decide +kernel
theorem dX8_form_15 : decode cX8_form 15 = .ok (.aload_n 0, 1) := by decide +kernel
theorem dX8_form_16 : decode cX8_form 16 = .ok (.getfield 19, 3) := by decide +kernel
theorem dX8_form_19 : decode cX8_form 19 = .ok (.iload_n 2, 1) := by decide +kernel
theorem dX8_form_20 : decode cX8_form 20 = .ok (.iaload, 1) := by decide +kernel
theorem dX8_form_21 : decode cX8_form 21 = .ok (.iload_n 2, 1) := by decide +kernel
theorem dX8_form_22 : decode cX8_form 22 = .ok (.if_icmp .ne 15, 3) := by decide +kernel
theorem dX8_form_25 : decode cX8_form 25 = .ok (.aload_n 0, 1) := by decide +kernel
theorem dX8_form_26 : decode cX8_form 26 = .ok (.getfield 22, 3) := by decide +kernel
theorem dX8_form_29 : decode cX8_form 29 = .ok (.iload_n 2, 1) := by decide +kernel
theorem dX8_form_30 : decode cX8_form 30 = .ok (.iaload, 1) := by decide +kernel
theorem dX8_form_31 : decode cX8_form 31 = .ok (.iload_n 1, 1) := by decide +kernel
theorem dX8_form_32 : decode cX8_form 32 = .ok (.if_icmp .ne 5, 3) := by decide +kernel
theorem dX8_form_35 : decode cX8_form 35 = .ok (.iload_n 2, 1) := by decide +kernel
theorem dX8_form_36 : decode cX8_form 36 = .ok (.ireturn, 1) := by decide +kernel
theorem dX8_form_37 : decode cX8_form 37 = .ok (.iinc 2 1, 3) := by decide +kernel
theorem dX8_form_40 : decode cX8_form 40 = .ok (.goto (-32), 3) := by decide +kernel
theorem dX8_form_43 : decode cX8_form 43 = .ok (.bipush (-5), 2) := by decide +kernel
theorem dX8_form_45 : decode cX8_form 45 = .ok (.ireturn, 1) := by decide +kernel
theorem dX8_classes_0 : decode cX8_classes 0 = .ok (.iload_n 1, 1) := by decide +kernel
theorem dX8_classes_1 : decode cX8_classes 1 = .ok (.iconst 0, 1) := by decide +kernel
theorem dX8_classes_2 : decode cX8_classes 2 = .ok (.bipush 8, 2) := by decide +kernel
theorem dX8_classes_4 : decode cX8_classes 4 = .ok (.invokestatic 5, 3) := by decide +kernel
theorem dX8_classes_7 : decode cX8_classes 7 = .ok (.ifCond .ne 6, 3) := by decide +kernel
theorem dX8_classes_10 : decode cX8_classes 10 = .ok (.bipush (-2), 2) := by decide +kernel
theorem dX8_classes_12 : decode cX8_classes 12 = .ok (.ireturn, 1) := by decide +kernel
theorem dX8_classes_13 : decode cX8_classes 13 = .ok (.iconst 0, 1) := by decide +kernel
theorem dX8_classes_14 : decode cX8_classes 14 = .ok (.istore_n 2, 1) := by decide +kernel
theorem dX8_classes_15 : decode cX8_classes 15 = .ok (.iconst 0, 1) := by decide +kernel
theorem dX8_classes_16 : decode cX8_classes 16 = .ok (.istore_n 3, 1) := by decide +kernel
theorem dX8_classes_17 : decode cX8_classes 17 = .ok (.iload_n 3, 1) := by decide +kernel
theorem dX8_classes_18 : decode cX8_classes 18 = .ok (.sipush 256, 3) := by decide +kernel
theorem dX8_classes_21 : decode cX8_classes 21 = .ok (.if_icmp .ge 35, 3) := by decide +kernel
theorem dX8_classes_24 : decode cX8_classes 24 = .ok (.iload_n 2, 1) := by decide +kernel
theorem dX8_classes_25 : decode cX8_classes 25 = .ok (.aload_n 0, 1) := by decide +kernel
theorem dX8_classes_26 : decode cX8_classes 26 = .ok (.getfield 19, 3) := by decide +kernel
theorem dX8_classes_29 : decode cX8_classes 29 = .ok (.iload_n 3, 1) := by decide +kernel
theorem dX8_classes_30 : decode cX8_classes 30 = .ok (.iaload, 1) := by decide +kernel
theorem dX8_classes_31 : decode cX8_classes 31 = .ok (.iload_n 3, 1) := by decide +kernel
theorem dX8_classes_32 : decode cX8_classes 32 = .ok (.if_icmp .ne 15, 3) := by decide +kernel
theorem dX8_classes_35 : decode cX8_classes 35 = .ok (.iload_n 3, 1) := by decide +kernel
theorem dX8_classes_36 : decode cX8_classes 36 = .ok (.invokestatic 105, 3) := by decide +kernel
theorem dX8_classes_39 : decode cX8_classes 39 = .ok (.iload_n 1, 1) := by decide +kernel
theorem dX8_classes_40 : decode cX8_classes 40 = .ok (.if_icmp .ne 7, 3) := by decide +kernel
theorem dX8_classes_43 : decode cX8_classes 43 = .ok (.iconst 1, 1) := by decide +kernel
theorem dX8_classes_44 : decode cX8_classes 44 = .ok (.goto 4, 3) := by decide +kernel
theorem dX8_classes_47 : decode cX8_classes 47 = .ok (.iconst 0, 1) := by decide +kernel
theorem dX8_classes_48 : decode cX8_classes 48 = .ok (.iadd, 1) := by decide +kernel
theorem dX8_classes_49 : decode cX8_classes 49 = .ok (.istore_n 2, 1) := by decide +kernel
theorem dX8_classes_50 : decode cX8_classes 50 = .ok (.iinc 3 1, 3) := by decide +kernel
theorem dX8_classes_53 : decode cX8_classes 53 = .ok (.goto (-36), 3) := by decide +kernel
theorem dX8_classes_56 : decode cX8_classes 56 = .ok (.iload_n 2, 1) := by decide +kernel
theorem dX8_classes_57 : decode cX8_classes 57 = .ok (.ireturn, 1) := by decide +kernel
theorem dX8_weighs_0 : decode cX8_weighs 0 = .ok (.iload_n 1, 1) := by decide +kernel
theorem dX8_weighs_1 : decode cX8_weighs 1 = .ok (.bipush (-3), 2) := by decide +kernel
theorem dX8_weighs_3 : decode cX8_weighs 3 = .ok (.iconst 3, 1) := by decide +kernel
theorem dX8_weighs_4 : decode cX8_weighs 4 = .ok (.invokestatic 5, 3) := by decide +kernel
theorem dX8_weighs_7 : decode cX8_weighs 7 = .ok (.ifCond .eq 35, 3) := by decide +kernel
theorem dX8_weighs_10 : decode cX8_weighs 10 = .ok (.iload_n 2, 1) := by decide +kernel
theorem dX8_weighs_11 : decode cX8_weighs 11 = .ok (.bipush (-3), 2) := by decide +kernel
theorem dX8_weighs_13 : decode cX8_weighs 13 = .ok (.iconst 3, 1) := by decide +kernel
theorem dX8_weighs_14 : decode cX8_weighs 14 = .ok (.invokestatic 5, 3) := by decide +kernel
theorem dX8_weighs_17 : decode cX8_weighs 17 = .ok (.ifCond .eq 25, 3) := by decide +kernel
theorem dX8_weighs_20 : decode cX8_weighs 20 = .ok (.iload_n 3, 1) := by decide +kernel
theorem dX8_weighs_21 : decode cX8_weighs 21 = .ok (.bipush (-3), 2) := by decide +kernel
theorem dX8_weighs_23 : decode cX8_weighs 23 = .ok (.iconst 3, 1) := by decide +kernel
theorem dX8_weighs_24 : decode cX8_weighs 24 = .ok (.invokestatic 5, 3) := by decide +kernel
theorem dX8_weighs_27 : decode cX8_weighs 27 = .ok (.ifCond .eq 15, 3) := by decide +kernel
theorem dX8_weighs_30 : decode cX8_weighs 30 = .ok (.iload_n 1, 1) := by decide +kernel
theorem dX8_weighs_31 : decode cX8_weighs 31 = .ok (.ifCond .ne 14, 3) := by decide +kernel
theorem dX8_weighs_34 : decode cX8_weighs 34 = .ok (.iload_n 2, 1) := by decide +kernel
theorem dX8_weighs_35 : decode cX8_weighs 35 = .ok (.ifCond .ne 10, 3) := by decide +kernel
theorem dX8_weighs_38 : decode cX8_weighs 38 = .ok (.iload_n 3, 1) := by decide +kernel
theorem dX8_weighs_39 : decode cX8_weighs 39 = .ok (.ifCond .ne 6, 3) := by decide +kernel
theorem dX8_weighs_42 : decode cX8_weighs 42 = .ok (.bipush (-2), 2) := by decide +kernel
theorem dX8_weighs_44 : decode cX8_weighs 44 = .ok (.ireturn, 1) := by decide +kernel
theorem dX8_weighs_45 : decode cX8_weighs 45 = .ok (.iload 4, 2) := by decide +kernel
theorem dX8_weighs_47 : decode cX8_weighs 47 = .ok (.iconst 0, 1) := by decide +kernel
theorem dX8_weighs_48 : decode cX8_weighs 48 = .ok (.iconst 2, 1) := by decide +kernel
theorem dX8_weighs_49 : decode cX8_weighs 49 = .ok (.invokestatic 5, 3) := by decide +kernel
theorem dX8_weighs_52 : decode cX8_weighs 52 = .ok (.ifCond .ne 5, 3) := by decide +kernel
theorem dX8_weighs_55 : decode cX8_weighs 55 = .ok (.iconst (-1), 1) := by decide +kernel
theorem dX8_weighs_56 : decode cX8_weighs 56 = .ok (.ireturn, 1) := by decide +kernel
theorem dX8_weighs_57 : decode cX8_weighs 57 = .ok (.aload_n 0, 1) := by decide +kernel
theorem dX8_weighs_58 : decode cX8_weighs 58 = .ok (.getfield 125, 3) := by decide +kernel
theorem dX8_weighs_61 : decode cX8_weighs 61 = .ok (.ifCond .ne 6, 3) := by decide +kernel
theorem dX8_weighs_64 : decode cX8_weighs 64 = .ok (.bipush (-3), 2) := by decide +kernel
theorem dX8_weighs_66 : decode cX8_weighs 66 = .ok (.ireturn, 1) := by decide +kernel
theorem dX8_weighs_67 : decode cX8_weighs 67 = .ok (.bipush 49, 2) := by decide +kernel
theorem dX8_weighs_69 : decode cX8_weighs 69 = .ok (.iload_n 1, 1) := by decide +kernel
theorem dX8_weighs_70 : decode cX8_weighs 70 = .ok (.iconst 3, 1) := by decide +kernel
theorem dX8_weighs_71 : decode cX8_weighs 71 = .ok (.iadd, 1) := by decide +kernel
theorem dX8_weighs_72 : decode cX8_weighs 72 = .ok (.imul, 1) := by decide +kernel
theorem dX8_weighs_73 : decode cX8_weighs 73 = .ok (.bipush 7, 2) := by decide +kernel
theorem dX8_weighs_75 : decode cX8_weighs 75 = .ok (.iload_n 2, 1) := by decide +kernel
theorem dX8_weighs_76 : decode cX8_weighs 76 = .ok (.iconst 3, 1) := by decide +kernel
theorem dX8_weighs_77 : decode cX8_weighs 77 = .ok (.iadd, 1) := by decide +kernel
theorem dX8_weighs_78 : decode cX8_weighs 78 = .ok (.imul, 1) := by decide +kernel
theorem dX8_weighs_79 : decode cX8_weighs 79 = .ok (.iadd, 1) := by decide +kernel
theorem dX8_weighs_80 : decode cX8_weighs 80 = .ok (.iload_n 3, 1) := by decide +kernel
theorem dX8_weighs_81 : decode cX8_weighs 81 = .ok (.iadd, 1) := by decide +kernel
theorem dX8_weighs_82 : decode cX8_weighs 82 = .ok (.iconst 3, 1) := by decide +kernel
theorem dX8_weighs_83 : decode cX8_weighs 83 = .ok (.iadd, 1) := by decide +kernel
theorem dX8_weighs_84 : decode cX8_weighs 84 = .ok (.istore 5, 2) := by decide +kernel
theorem dX8_weighs_86 : decode cX8_weighs 86 = .ok (.iload 4, 2) := by decide +kernel
theorem dX8_weighs_88 : decode cX8_weighs 88 = .ok (.ifCond .ne 18, 3) := by decide +kernel
theorem dX8_weighs_91 : decode cX8_weighs 91 = .ok (.bipush 100, 2) := by decide +kernel
theorem dX8_weighs_93 : decode cX8_weighs 93 = .ok (.aload_n 0, 1) := by decide +kernel
theorem dX8_weighs_94 : decode cX8_weighs 94 = .ok (.getfield 125, 3) := by decide +kernel
theorem dX8_weighs_97 : decode cX8_weighs 97 = .ok (.iload 5, 2) := by decide +kernel
theorem dX8_weighs_99 : decode cX8_weighs 99 = .ok (.invokestatic 95, 3) := by decide +kernel
theorem dX8_weighs_102 : decode cX8_weighs 102 = .ok (.iadd, 1) := by decide +kernel
theorem dX8_weighs_103 : decode cX8_weighs 103 = .ok (.goto 33, 3) := by decide +kernel
theorem dX8_weighs_106 : decode cX8_weighs 106 = .ok (.iload 4, 2) := by decide +kernel
theorem dX8_weighs_108 : decode cX8_weighs 108 = .ok (.iconst 1, 1) := by decide +kernel
theorem dX8_weighs_109 : decode cX8_weighs 109 = .ok (.if_icmp .ne 18, 3) := by decide +kernel
theorem dX8_weighs_112 : decode cX8_weighs 112 = .ok (.bipush 100, 2) := by decide +kernel
theorem dX8_weighs_114 : decode cX8_weighs 114 = .ok (.aload_n 0, 1) := by decide +kernel
theorem dX8_weighs_115 : decode cX8_weighs 115 = .ok (.getfield 125, 3) := by decide +kernel
theorem dX8_weighs_118 : decode cX8_weighs 118 = .ok (.iload 5, 2) := by decide +kernel
theorem dX8_weighs_120 : decode cX8_weighs 120 = .ok (.invokestatic 119, 3) := by decide +kernel
theorem dX8_weighs_123 : decode cX8_weighs 123 = .ok (.iadd, 1) := by decide +kernel
theorem dX8_weighs_124 : decode cX8_weighs 124 = .ok (.goto 12, 3) := by decide +kernel
theorem dX8_weighs_127 : decode cX8_weighs 127 = .ok (.aload_n 0, 1) := by decide +kernel
theorem dX8_weighs_128 : decode cX8_weighs 128 = .ok (.getfield 125, 3) := by decide +kernel
theorem dX8_weighs_131 : decode cX8_weighs 131 = .ok (.iload 5, 2) := by decide +kernel
theorem dX8_weighs_133 : decode cX8_weighs 133 = .ok (.invokestatic 98, 3) := by decide +kernel
theorem dX8_weighs_136 : decode cX8_weighs 136 = .ok (.ireturn, 1) := by decide +kernel
theorem dX8_face_0 : decode cX8_face 0 = .ok (.iload_n 1, 1) := by decide +kernel
theorem dX8_face_1 : decode cX8_face 1 = .ok (.ifCond .ge 5, 3) := by decide +kernel
theorem dX8_face_4 : decode cX8_face 4 = .ok (.iconst (-1), 1) := by decide +kernel
theorem dX8_face_5 : decode cX8_face 5 = .ok (.ireturn, 1) := by decide +kernel
theorem dX8_face_6 : decode cX8_face 6 = .ok (.aload_n 0, 1) := by decide +kernel
theorem dX8_face_7 : decode cX8_face 7 = .ok (.aload_n 0, 1) := by decide +kernel
theorem dX8_face_8 : decode cX8_face 8 = .ok (.getfield 125, 3) := by decide +kernel
theorem dX8_face_11 : decode cX8_face 11 = .ok (.invokevirtual 186, 3) := by decide +kernel
theorem dX8_face_14 : decode cX8_face 14 = .ok (.istore_n 2, 1) := by decide +kernel
theorem dX8_face_15 : decode cX8_face 15 = .ok (.iload_n 1, 1) := by decide +kernel
theorem dX8_face_16 : decode cX8_face 16 = .ok (.iload_n 2, 1) := by decide +kernel
theorem dX8_face_17 : decode cX8_face 17 = .ok (.if_icmp .lt 6, 3) := by decide +kernel
theorem dX8_face_20 : decode cX8_face 20 = .ok (.bipush (-5), 2) := by decide +kernel
theorem dX8_face_22 : decode cX8_face 22 = .ok (.ireturn, 1) := by decide +kernel
theorem dX8_face_23 : decode cX8_face 23 = .ok (.iconst 0, 1) := by decide +kernel
theorem dX8_face_24 : decode cX8_face 24 = .ok (.istore_n 3, 1) := by decide +kernel
theorem dX8_face_25 : decode cX8_face 25 = .ok (.iload_n 1, 1) := by decide +kernel
theorem dX8_face_26 : decode cX8_face 26 = .ok (.istore 4, 2) := by decide +kernel
theorem dX8_face_28 : decode cX8_face 28 = .ok (.aload_n 0, 1) := by decide +kernel
theorem dX8_face_29 : decode cX8_face 29 = .ok (.getfield 31, 3) := by decide +kernel
theorem dX8_face_32 : decode cX8_face 32 = .ok (.iload_n 3, 1) := by decide +kernel
theorem dX8_face_33 : decode cX8_face 33 = .ok (.baload, 1) := by decide +kernel
theorem dX8_face_34 : decode cX8_face 34 = .ok (.ifCond .eq 8, 3) := by decide +kernel
theorem dX8_face_37 : decode cX8_face 37 = .ok (.iload 4, 2) := by decide +kernel
theorem dX8_face_39 : decode cX8_face 39 = .ok (.ifCond .le 28, 3) := by decide +kernel
theorem dX8_face_42 : decode cX8_face 42 = .ok (.iload 4, 2) := by decide +kernel
theorem dX8_face_44 : decode cX8_face 44 = .ok (.aload_n 0, 1) := by decide +kernel
theorem dX8_face_45 : decode cX8_face 45 = .ok (.getfield 31, 3) := by decide +kernel
theorem dX8_face_48 : decode cX8_face 48 = .ok (.iload_n 3, 1) := by decide +kernel
theorem dX8_face_49 : decode cX8_face 49 = .ok (.baload, 1) := by decide +kernel
theorem dX8_face_50 : decode cX8_face 50 = .ok (.ifCond .eq 7, 3) := by decide +kernel
theorem dX8_face_53 : decode cX8_face 53 = .ok (.iconst 1, 1) := by decide +kernel
theorem dX8_face_54 : decode cX8_face 54 = .ok (.goto 4, 3) := by decide +kernel
theorem dX8_face_57 : decode cX8_face 57 = .ok (.iconst 0, 1) := by decide +kernel
theorem dX8_face_58 : decode cX8_face 58 = .ok (.isub, 1) := by decide +kernel
theorem dX8_face_59 : decode cX8_face 59 = .ok (.istore 4, 2) := by decide +kernel
theorem dX8_face_61 : decode cX8_face 61 = .ok (.iinc 3 1, 3) := by decide +kernel
theorem dX8_face_64 : decode cX8_face 64 = .ok (.goto (-36), 3) := by decide +kernel
theorem dX8_face_67 : decode cX8_face 67 = .ok (.iload_n 3, 1) := by decide +kernel
theorem dX8_face_68 : decode cX8_face 68 = .ok (.ireturn, 1) := by decide +kernel
theorem dX8_edge_0 : decode cX8_edge 0 = .ok (.iload_n 1, 1) := by decide +kernel
theorem dX8_edge_1 : decode cX8_edge 1 = .ok (.invokestatic 122, 3) := by decide +kernel
theorem dX8_edge_4 : decode cX8_edge 4 = .ok (.ifCond .eq 10, 3) := by decide +kernel
theorem dX8_edge_7 : decode cX8_edge 7 = .ok (.iload_n 2, 1) := by decide +kernel
theorem dX8_edge_8 : decode cX8_edge 8 = .ok (.invokestatic 122, 3) := by decide +kernel
theorem dX8_edge_11 : decode cX8_edge 11 = .ok (.ifCond .ne 5, 3) := by decide +kernel
theorem dX8_edge_14 : decode cX8_edge 14 = .ok (.iconst (-1), 1) := by decide +kernel
theorem dX8_edge_15 : decode cX8_edge 15 = .ok (.ireturn, 1) := by decide +kernel
theorem dX8_edge_16 : decode cX8_edge 16 = .ok (.iload_n 1, 1) := by decide +kernel
theorem dX8_edge_17 : decode cX8_edge 17 = .ok (.iload_n 2, 1) := by decide +kernel
theorem dX8_edge_18 : decode cX8_edge 18 = .ok (.if_icmp .eq 21, 3) := by decide +kernel
theorem dX8_edge_21 : decode cX8_edge 21 = .ok (.aload_n 0, 1) := by decide +kernel
theorem dX8_edge_22 : decode cX8_edge 22 = .ok (.getfield 125, 3) := by decide +kernel
theorem dX8_edge_25 : decode cX8_edge 25 = .ok (.iload_n 1, 1) := by decide +kernel
theorem dX8_edge_26 : decode cX8_edge 26 = .ok (.ishr, 1) := by decide +kernel
theorem dX8_edge_27 : decode cX8_edge 27 = .ok (.aload_n 0, 1) := by decide +kernel
theorem dX8_edge_28 : decode cX8_edge 28 = .ok (.getfield 125, 3) := by decide +kernel
theorem dX8_edge_31 : decode cX8_edge 31 = .ok (.iload_n 2, 1) := by decide +kernel
theorem dX8_edge_32 : decode cX8_edge 32 = .ok (.ishr, 1) := by decide +kernel
theorem dX8_edge_33 : decode cX8_edge 33 = .ok (.iand, 1) := by decide +kernel
theorem dX8_edge_34 : decode cX8_edge 34 = .ok (.iconst 1, 1) := by decide +kernel
theorem dX8_edge_35 : decode cX8_edge 35 = .ok (.iand, 1) := by decide +kernel
theorem dX8_edge_36 : decode cX8_edge 36 = .ok (.ifCond .ne 6, 3) := by decide +kernel
theorem dX8_edge_39 : decode cX8_edge 39 = .ok (.bipush (-5), 2) := by decide +kernel
theorem dX8_edge_41 : decode cX8_edge 41 = .ok (.ireturn, 1) := by decide +kernel
theorem dX8_edge_42 : decode cX8_edge 42 = .ok (.aload_n 0, 1) := by decide +kernel
theorem dX8_edge_43 : decode cX8_edge 43 = .ok (.getfield 125, 3) := by decide +kernel
theorem dX8_edge_46 : decode cX8_edge 46 = .ok (.iload_n 1, 1) := by decide +kernel
theorem dX8_edge_47 : decode cX8_edge 47 = .ok (.iload_n 2, 1) := by decide +kernel
theorem dX8_edge_48 : decode cX8_edge 48 = .ok (.invokestatic 109, 3) := by decide +kernel
theorem dX8_edge_51 : decode cX8_edge 51 = .ok (.ifCond .eq 7, 3) := by decide +kernel
theorem dX8_edge_54 : decode cX8_edge 54 = .ok (.iconst 1, 1) := by decide +kernel
theorem dX8_edge_55 : decode cX8_edge 55 = .ok (.goto 4, 3) := by decide +kernel
theorem dX8_edge_58 : decode cX8_edge 58 = .ok (.iconst 0, 1) := by decide +kernel
theorem dX8_edge_59 : decode cX8_edge 59 = .ok (.ireturn, 1) := by decide +kernel
theorem dX8_points_0 : decode cX8_points 0 = .ok (.iload_n 1, 1) := by decide +kernel
theorem dX8_points_1 : decode cX8_points 1 = .ok (.iconst 1, 1) := by decide +kernel
theorem dX8_points_2 : decode cX8_points 2 = .ok (.iconst 3, 1) := by decide +kernel
theorem dX8_points_3 : decode cX8_points 3 = .ok (.invokestatic 5, 3) := by decide +kernel
theorem dX8_points_6 : decode cX8_points 6 = .ok (.ifCond .ne 8, 3) := by decide +kernel
theorem dX8_points_9 : decode cX8_points 9 = .ok (.bipush (-2), 2) := by decide +kernel
theorem dX8_points_11 : decode cX8_points 11 = .ok (.goto 23, 3) := by decide +kernel
theorem dX8_points_14 : decode cX8_points 14 = .ok (.aload_n 0, 1) := by decide +kernel
theorem dX8_points_15 : decode cX8_points 15 = .ok (.getfield 125, 3) := by decide +kernel
theorem dX8_points_18 : decode cX8_points 18 = .ok (.ifCond .ne 8, 3) := by decide +kernel
theorem dX8_points_21 : decode cX8_points 21 = .ok (.bipush (-3), 2) := by decide +kernel
theorem dX8_points_23 : decode cX8_points 23 = .ok (.goto 11, 3) := by decide +kernel
theorem dX8_points_26 : decode cX8_points 26 = .ok (.aload_n 0, 1) := by decide +kernel
theorem dX8_points_27 : decode cX8_points 27 = .ok (.getfield 125, 3) := by decide +kernel
theorem dX8_points_30 : decode cX8_points 30 = .ok (.iload_n 1, 1) := by decide +kernel
theorem dX8_points_31 : decode cX8_points 31 = .ok (.invokestatic 116, 3) := by decide +kernel
theorem dX8_points_34 : decode cX8_points 34 = .ok (.ireturn, 1) := by decide +kernel
theorem dX8_holds_0 : decode cX8_holds 0 = .ok (.iload_n 1, 1) := by decide +kernel
theorem dX8_holds_1 : decode cX8_holds 1 = .ok (.iconst 1, 1) := by decide +kernel
theorem dX8_holds_2 : decode cX8_holds 2 = .ok (.iconst 3, 1) := by decide +kernel
theorem dX8_holds_3 : decode cX8_holds 3 = .ok (.invokestatic 5, 3) := by decide +kernel
theorem dX8_holds_6 : decode cX8_holds 6 = .ok (.ifCond .eq 31, 3) := by decide +kernel
theorem dX8_holds_9 : decode cX8_holds 9 = .ok (.iload_n 2, 1) := by decide +kernel
theorem dX8_holds_10 : decode cX8_holds 10 = .ok (.iconst 0, 1) := by decide +kernel
theorem dX8_holds_11 : decode cX8_holds 11 = .ok (.iconst 3, 1) := by decide +kernel
theorem dX8_holds_12 : decode cX8_holds 12 = .ok (.invokestatic 5, 3) := by decide +kernel
theorem dX8_holds_15 : decode cX8_holds 15 = .ok (.ifCond .eq 22, 3) := by decide +kernel
theorem dX8_holds_18 : decode cX8_holds 18 = .ok (.iload_n 3, 1) := by decide +kernel
theorem dX8_holds_19 : decode cX8_holds 19 = .ok (.iconst 0, 1) := by decide +kernel
theorem dX8_holds_20 : decode cX8_holds 20 = .ok (.iconst 3, 1) := by decide +kernel
theorem dX8_holds_21 : decode cX8_holds 21 = .ok (.invokestatic 5, 3) := by decide +kernel
theorem dX8_holds_24 : decode cX8_holds 24 = .ok (.ifCond .eq 13, 3) := by decide +kernel
theorem dX8_holds_27 : decode cX8_holds 27 = .ok (.iload 4, 2) := by decide +kernel
theorem dX8_holds_29 : decode cX8_holds 29 = .ok (.iconst 0, 1) := by decide +kernel
theorem dX8_holds_30 : decode cX8_holds 30 = .ok (.iconst 3, 1) := by decide +kernel
theorem dX8_holds_31 : decode cX8_holds 31 = .ok (.invokestatic 5, 3) := by decide +kernel
theorem dX8_holds_34 : decode cX8_holds 34 = .ok (.ifCond .ne 6, 3) := by decide +kernel
theorem dX8_holds_37 : decode cX8_holds 37 = .ok (.bipush (-2), 2) := by decide +kernel
theorem dX8_holds_39 : decode cX8_holds 39 = .ok (.ireturn, 1) := by decide +kernel
theorem dX8_holds_40 : decode cX8_holds 40 = .ok (.aload_n 0, 1) := by decide +kernel
theorem dX8_holds_41 : decode cX8_holds 41 = .ok (.getfield 125, 3) := by decide +kernel
theorem dX8_holds_44 : decode cX8_holds 44 = .ok (.ifCond .ne 8, 3) := by decide +kernel
theorem dX8_holds_47 : decode cX8_holds 47 = .ok (.bipush (-3), 2) := by decide +kernel
theorem dX8_holds_49 : decode cX8_holds 49 = .ok (.goto 23, 3) := by decide +kernel
theorem dX8_holds_52 : decode cX8_holds 52 = .ok (.aload_n 0, 1) := by decide +kernel
theorem dX8_holds_53 : decode cX8_holds 53 = .ok (.getfield 125, 3) := by decide +kernel
theorem dX8_holds_56 : decode cX8_holds 56 = .ok (.iload_n 1, 1) := by decide +kernel
theorem dX8_holds_57 : decode cX8_holds 57 = .ok (.iload_n 2, 1) := by decide +kernel
theorem dX8_holds_58 : decode cX8_holds 58 = .ok (.iload_n 3, 1) := by decide +kernel
theorem dX8_holds_59 : decode cX8_holds 59 = .ok (.iload 4, 2) := by decide +kernel
theorem dX8_holds_61 : decode cX8_holds 61 = .ok (.invokestatic 112, 3) := by decide +kernel
theorem dX8_holds_64 : decode cX8_holds 64 = .ok (.ifCond .eq 7, 3) := by decide +kernel
theorem dX8_holds_67 : decode cX8_holds 67 = .ok (.iconst 1, 1) := by decide +kernel
theorem dX8_holds_68 : decode cX8_holds 68 = .ok (.goto 4, 3) := by decide +kernel
theorem dX8_holds_71 : decode cX8_holds 71 = .ok (.iconst 0, 1) := by decide +kernel
theorem dX8_holds_72 : decode cX8_holds 72 = .ok (.ireturn, 1) := by decide +kernel
theorem dX8_centre_0 : decode cX8_centre 0 = .ok (.fconst 0, 1) := by decide +kernel
theorem dX8_centre_1 : decode cX8_centre 1 = .ok (.fstore_n 2, 1) := by decide +kernel
theorem dX8_centre_2 : decode cX8_centre 2 = .ok (.iconst 0, 1) := by decide +kernel
theorem dX8_centre_3 : decode cX8_centre 3 = .ok (.istore_n 3, 1) := by decide +kernel
theorem dX8_centre_4 : decode cX8_centre 4 = .ok (.iload_n 3, 1) := by decide +kernel
theorem dX8_centre_5 : decode cX8_centre 5 = .ok (.bipush 8, 2) := by decide +kernel
theorem dX8_centre_7 : decode cX8_centre 7 = .ok (.if_icmp .ge 30, 3) := by decide +kernel
theorem dX8_centre_10 : decode cX8_centre 10 = .ok (.aload_n 0, 1) := by decide +kernel
theorem dX8_centre_11 : decode cX8_centre 11 = .ok (.getfield 125, 3) := by decide +kernel
theorem dX8_centre_14 : decode cX8_centre 14 = .ok (.iload_n 3, 1) := by decide +kernel
theorem dX8_centre_15 : decode cX8_centre 15 = .ok (.ishr, 1) := by decide +kernel
theorem dX8_centre_16 : decode cX8_centre 16 = .ok (.iconst 1, 1) := by decide +kernel
theorem dX8_centre_17 : decode cX8_centre 17 = .ok (.iand, 1) := by decide +kernel
theorem dX8_centre_18 : decode cX8_centre 18 = .ok (.iconst 1, 1) := by decide +kernel
theorem dX8_centre_19 : decode cX8_centre 19 = .ok (.if_icmp .ne 12, 3) := by decide +kernel
theorem dX8_centre_22 : decode cX8_centre 22 = .ok (.fload_n 2, 1) := by decide +kernel
theorem dX8_centre_23 : decode cX8_centre 23 = .ok (.iload_n 3, 1) := by decide +kernel
theorem dX8_centre_24 : decode cX8_centre 24 = .ok (.iload_n 1, 1) := by decide +kernel
theorem dX8_centre_25 : decode cX8_centre 25 = .ok (.ishr, 1) := by decide +kernel
theorem dX8_centre_26 : decode cX8_centre 26 = .ok (.iconst 1, 1) := by decide +kernel
theorem dX8_centre_27 : decode cX8_centre 27 = .ok (.iand, 1) := by decide +kernel
theorem dX8_centre_28 : decode cX8_centre 28 = .ok (.i2f, 1) := by decide +kernel
theorem dX8_centre_29 : decode cX8_centre 29 = .ok (.fadd, 1) := by decide +kernel
theorem dX8_centre_30 : decode cX8_centre 30 = .ok (.fstore_n 2, 1) := by decide +kernel
theorem dX8_centre_31 : decode cX8_centre 31 = .ok (.iinc 3 1, 3) := by decide +kernel
theorem dX8_centre_34 : decode cX8_centre 34 = .ok (.goto (-30), 3) := by decide +kernel
theorem dX8_centre_37 : decode cX8_centre 37 = .ok (.fload_n 2, 1) := by decide +kernel
theorem dX8_centre_38 : decode cX8_centre 38 = .ok (.aload_n 0, 1) := by decide +kernel
theorem dX8_centre_39 : decode cX8_centre 39 = .ok (.getfield 125, 3) := by decide +kernel
theorem dX8_centre_42 : decode cX8_centre 42 = .ok (.invokestatic 105, 3) := by decide +kernel
theorem dX8_centre_45 : decode cX8_centre 45 = .ok (.i2f, 1) := by decide +kernel
theorem dX8_centre_46 : decode cX8_centre 46 = .ok (.fdiv, 1) := by decide +kernel
theorem dX8_centre_47 : decode cX8_centre 47 = .ok (.freturn, 1) := by decide +kernel
theorem dX8_fat_0 : decode cX8_fat 0 = .ok (.aload_n 0, 1) := by decide +kernel
theorem dX8_fat_1 : decode cX8_fat 1 = .ok (.getfield 125, 3) := by decide +kernel
theorem dX8_fat_4 : decode cX8_fat 4 = .ok (.invokestatic 198, 3) := by decide +kernel
theorem dX8_fat_7 : decode cX8_fat 7 = .ok (.istore_n 1, 1) := by decide +kernel
theorem dX8_fat_8 : decode cX8_fat 8 = .ok (.iload_n 1, 1) := by decide +kernel
theorem dX8_fat_9 : decode cX8_fat 9 = .ok (.ifCond .ne 7, 3) := by decide +kernel
theorem dX8_fat_12 : decode cX8_fat 12 = .ok (.fconst 0, 1) := by decide +kernel
theorem dX8_fat_13 : decode cX8_fat 13 = .ok (.goto 17, 3) := by decide +kernel
theorem dX8_fat_16 : decode cX8_fat 16 = .ok (.aload_n 0, 1) := by decide +kernel
theorem dX8_fat_17 : decode cX8_fat 17 = .ok (.getfield 125, 3) := by decide +kernel
theorem dX8_fat_20 : decode cX8_fat 20 = .ok (.invokestatic 195, 3) := by decide +kernel
theorem dX8_fat_23 : decode cX8_fat 23 = .ok (.i2f, 1) := by decide +kernel
theorem dX8_fat_24 : decode cX8_fat 24 = .ok (.ldc 201, 2) := by decide +kernel
theorem dX8_fat_26 : decode cX8_fat 26 = .ok (.fdiv, 1) := by decide +kernel
theorem dX8_fat_27 : decode cX8_fat 27 = .ok (.iload_n 1, 1) := by decide +kernel
theorem dX8_fat_28 : decode cX8_fat 28 = .ok (.i2f, 1) := by decide +kernel
theorem dX8_fat_29 : decode cX8_fat 29 = .ok (.fdiv, 1) := by decide +kernel
theorem dX8_fat_30 : decode cX8_fat 30 = .ok (.freturn, 1) := by decide +kernel
theorem dX8_floats_0 : decode cX8_floats 0 = .ok (.iload_n 1, 1) := by decide +kernel
theorem dX8_floats_1 : decode cX8_floats 1 = .ok (.iconst 0, 1) := by decide +kernel
theorem dX8_floats_2 : decode cX8_floats 2 = .ok (.iconst 3, 1) := by decide +kernel
theorem dX8_floats_3 : decode cX8_floats 3 = .ok (.invokestatic 5, 3) := by decide +kernel
theorem dX8_floats_6 : decode cX8_floats 6 = .ok (.ifCond .ne 5, 3) := by decide +kernel
theorem dX8_floats_9 : decode cX8_floats 9 = .ok (.iconst (-1), 1) := by decide +kernel
theorem dX8_floats_10 : decode cX8_floats 10 = .ok (.ireturn, 1) := by decide +kernel
theorem dX8_floats_11 : decode cX8_floats 11 = .ok (.aload_n 0, 1) := by decide +kernel
theorem dX8_floats_12 : decode cX8_floats 12 = .ok (.getfield 125, 3) := by decide +kernel
theorem dX8_floats_15 : decode cX8_floats 15 = .ok (.ifCond .ne 8, 3) := by decide +kernel
theorem dX8_floats_18 : decode cX8_floats 18 = .ok (.bipush (-3), 2) := by decide +kernel
theorem dX8_floats_20 : decode cX8_floats 20 = .ok (.goto 23, 3) := by decide +kernel
theorem dX8_floats_23 : decode cX8_floats 23 = .ok (.iload_n 1, 1) := by decide +kernel
theorem dX8_floats_24 : decode cX8_floats 24 = .ok (.iconst 3, 1) := by decide +kernel
theorem dX8_floats_25 : decode cX8_floats 25 = .ok (.if_icmp .ne 10, 3) := by decide +kernel
theorem dX8_floats_28 : decode cX8_floats 28 = .ok (.aload_n 0, 1) := by decide +kernel
theorem dX8_floats_29 : decode cX8_floats 29 = .ok (.invokevirtual 202, 3) := by decide +kernel
theorem dX8_floats_32 : decode cX8_floats 32 = .ok (.goto 8, 3) := by decide +kernel
theorem dX8_floats_35 : decode cX8_floats 35 = .ok (.aload_n 0, 1) := by decide +kernel
theorem dX8_floats_36 : decode cX8_floats 36 = .ok (.iload_n 1, 1) := by decide +kernel
theorem dX8_floats_37 : decode cX8_floats 37 = .ok (.invokevirtual 206, 3) := by decide +kernel
theorem dX8_floats_40 : decode cX8_floats 40 = .ok (.invokestatic 210, 3) := by decide +kernel
theorem dX8_floats_43 : decode cX8_floats 43 = .ok (.ireturn, 1) := by decide +kernel
theorem dX8_spread_0 : decode cX8_spread 0 = .ok (.aload_n 0, 1) := by decide +kernel
theorem dX8_spread_1 : decode cX8_spread 1 = .ok (.getfield 125, 3) := by decide +kernel
theorem dX8_spread_4 : decode cX8_spread 4 = .ok (.ifCond .ne 7, 3) := by decide +kernel
theorem dX8_spread_7 : decode cX8_spread 7 = .ok (.ldc2_w 216, 3) := by decide +kernel
theorem dX8_spread_10 : decode cX8_spread 10 = .ok (.lreturn, 1) := by decide +kernel
theorem dX8_spread_11 : decode cX8_spread 11 = .ok (.dconst 0, 1) := by decide +kernel
theorem dX8_spread_12 : decode cX8_spread 12 = .ok (.dstore_n 1, 1) := by decide +kernel
theorem dX8_spread_13 : decode cX8_spread 13 = .ok (.iconst 0, 1) := by decide +kernel
theorem dX8_spread_14 : decode cX8_spread 14 = .ok (.istore_n 3, 1) := by decide +kernel
theorem dX8_spread_15 : decode cX8_spread 15 = .ok (.iload_n 3, 1) := by decide +kernel
theorem dX8_spread_16 : decode cX8_spread 16 = .ok (.iconst 3, 1) := by decide +kernel
theorem dX8_spread_17 : decode cX8_spread 17 = .ok (.if_icmp .ge 29, 3) := by decide +kernel
theorem dX8_spread_20 : decode cX8_spread 20 = .ok (.aload_n 0, 1) := by decide +kernel
theorem dX8_spread_21 : decode cX8_spread 21 = .ok (.iload_n 3, 1) := by decide +kernel
theorem dX8_spread_22 : decode cX8_spread 22 = .ok (.invokevirtual 206, 3) := by decide +kernel
theorem dX8_spread_25 : decode cX8_spread 25 = .ok (.f2d, 1) := by decide +kernel
theorem dX8_spread_26 : decode cX8_spread 26 = .ok (.ldc2_w 218, 3) := by decide +kernel
theorem dX8_spread_29 : decode cX8_spread 29 = .ok (.dsub, 1) := by decide +kernel
theorem dX8_spread_30 : decode cX8_spread 30 = .ok (.dstore 4, 2) := by decide +kernel
theorem dX8_spread_32 : decode cX8_spread 32 = .ok (.dload_n 1, 1) := by decide +kernel
theorem dX8_spread_33 : decode cX8_spread 33 = .ok (.dload 4, 2) := by decide +kernel
theorem dX8_spread_35 : decode cX8_spread 35 = .ok (.dload 4, 2) := by decide +kernel
theorem dX8_spread_37 : decode cX8_spread 37 = .ok (.dmul, 1) := by decide +kernel
theorem dX8_spread_38 : decode cX8_spread 38 = .ok (.dadd, 1) := by decide +kernel
theorem dX8_spread_39 : decode cX8_spread 39 = .ok (.dstore_n 1, 1) := by decide +kernel
theorem dX8_spread_40 : decode cX8_spread 40 = .ok (.iinc 3 1, 3) := by decide +kernel
theorem dX8_spread_43 : decode cX8_spread 43 = .ok (.goto (-28), 3) := by decide +kernel
theorem dX8_spread_46 : decode cX8_spread 46 = .ok (.dload_n 1, 1) := by decide +kernel
theorem dX8_spread_47 : decode cX8_spread 47 = .ok (.invokestatic 220, 3) := by decide +kernel
theorem dX8_spread_50 : decode cX8_spread 50 = .ok (.lreturn, 1) := by decide +kernel
theorem dX8_see_0 : decode cX8_see 0 = .ok (.iload_n 1, 1) := by decide +kernel
theorem dX8_see_1 : decode cX8_see 1 = .ok (.iconst (-1), 1) := by decide +kernel
theorem dX8_see_2 : decode cX8_see 2 = .ok (.if_icmp .ne 10, 3) := by decide +kernel
theorem dX8_see_5 : decode cX8_see 5 = .ok (.aload_n 0, 1) := by decide +kernel
theorem dX8_see_6 : decode cX8_see 6 = .ok (.iconst 0, 1) := by decide +kernel
theorem dX8_see_7 : decode cX8_see 7 = .ok (.putfield 226, 3) := by decide +kernel
theorem dX8_see_10 : decode cX8_see 10 = .ok (.iconst 0, 1) := by decide +kernel
theorem dX8_see_11 : decode cX8_see 11 = .ok (.ireturn, 1) := by decide +kernel
theorem dX8_see_12 : decode cX8_see 12 = .ok (.iload_n 1, 1) := by decide +kernel
theorem dX8_see_13 : decode cX8_see 13 = .ok (.iconst 0, 1) := by decide +kernel
theorem dX8_see_14 : decode cX8_see 14 = .ok (.iconst 3, 1) := by decide +kernel
theorem dX8_see_15 : decode cX8_see 15 = .ok (.invokestatic 5, 3) := by decide +kernel
theorem dX8_see_18 : decode cX8_see 18 = .ok (.ifCond .ne 5, 3) := by decide +kernel
theorem dX8_see_21 : decode cX8_see 21 = .ok (.iconst (-1), 1) := by decide +kernel
theorem dX8_see_22 : decode cX8_see 22 = .ok (.ireturn, 1) := by decide +kernel
theorem dX8_see_23 : decode cX8_see 23 = .ok (.iload_n 2, 1) := by decide +kernel
theorem dX8_see_24 : decode cX8_see 24 = .ok (.iconst 0, 1) := by decide +kernel
theorem dX8_see_25 : decode cX8_see 25 = .ok (.bipush 99, 2) := by decide +kernel
theorem dX8_see_27 : decode cX8_see 27 = .ok (.invokestatic 5, 3) := by decide +kernel
theorem dX8_see_30 : decode cX8_see 30 = .ok (.ifCond .ne 6, 3) := by decide +kernel
theorem dX8_see_33 : decode cX8_see 33 = .ok (.bipush (-2), 2) := by decide +kernel
theorem dX8_see_35 : decode cX8_see 35 = .ok (.ireturn, 1) := by decide +kernel
theorem dX8_see_36 : decode cX8_see 36 = .ok (.aload_n 0, 1) := by decide +kernel
theorem dX8_see_37 : decode cX8_see 37 = .ok (.getfield 226, 3) := by decide +kernel
theorem dX8_see_40 : decode cX8_see 40 = .ok (.iconst 4, 1) := by decide +kernel
theorem dX8_see_41 : decode cX8_see 41 = .ok (.if_icmp .ne 6, 3) := by decide +kernel
theorem dX8_see_44 : decode cX8_see 44 = .ok (.bipush (-4), 2) := by decide +kernel
theorem dX8_see_46 : decode cX8_see 46 = .ok (.ireturn, 1) := by decide +kernel
theorem dX8_see_47 : decode cX8_see 47 = .ok (.aload_n 0, 1) := by decide +kernel
theorem dX8_see_48 : decode cX8_see 48 = .ok (.getfield 47, 3) := by decide +kernel
theorem dX8_see_51 : decode cX8_see 51 = .ok (.aload_n 0, 1) := by decide +kernel
theorem dX8_see_52 : decode cX8_see 52 = .ok (.getfield 226, 3) := by decide +kernel
theorem dX8_see_55 : decode cX8_see 55 = .ok (.iload_n 1, 1) := by decide +kernel
theorem dX8_see_56 : decode cX8_see 56 = .ok (.iastore, 1) := by decide +kernel
theorem dX8_see_57 : decode cX8_see 57 = .ok (.aload_n 0, 1) := by decide +kernel
theorem dX8_see_58 : decode cX8_see 58 = .ok (.getfield 50, 3) := by decide +kernel
theorem dX8_see_61 : decode cX8_see 61 = .ok (.aload_n 0, 1) := by decide +kernel
theorem dX8_see_62 : decode cX8_see 62 = .ok (.getfield 226, 3) := by decide +kernel
theorem dX8_see_65 : decode cX8_see 65 = .ok (.iload_n 2, 1) := by decide +kernel
theorem dX8_see_66 : decode cX8_see 66 = .ok (.iastore, 1) := by decide +kernel
theorem dX8_see_67 : decode cX8_see 67 = .ok (.aload_n 0, 1) := by decide +kernel
theorem dX8_see_68 : decode cX8_see 68 = .ok (.dup, 1) := by decide +kernel
theorem dX8_see_69 : decode cX8_see 69 = .ok (.getfield 226, 3) := by decide +kernel
theorem dX8_see_72 : decode cX8_see 72 = .ok (.iconst 1, 1) := by decide +kernel
theorem dX8_see_73 : decode cX8_see 73 = .ok (.iadd, 1) := by decide +kernel
theorem dX8_see_74 : decode cX8_see 74 = .ok (.putfield 226, 3) := by decide +kernel
theorem dX8_see_77 : decode cX8_see 77 = .ok (.aload_n 0, 1) := by decide +kernel
theorem dX8_see_78 : decode cX8_see 78 = .ok (.getfield 226, 3) := by decide +kernel
theorem dX8_see_81 : decode cX8_see 81 = .ok (.ireturn, 1) := by decide +kernel
theorem dX8_isSeen_0 : decode cX8_isSeen 0 = .ok (.aload_n 0, 1) := by decide +kernel
theorem dX8_isSeen_1 : decode cX8_isSeen 1 = .ok (.getfield 47, 3) := by decide +kernel
theorem dX8_isSeen_4 : decode cX8_isSeen 4 = .ok (.iload_n 2, 1) := by decide +kernel
theorem dX8_isSeen_5 : decode cX8_isSeen 5 = .ok (.iaload, 1) := by decide +kernel
theorem dX8_isSeen_6 : decode cX8_isSeen 6 = .ok (.istore_n 3, 1) := by decide +kernel
theorem dX8_isSeen_7 : decode cX8_isSeen 7 = .ok (.aload_n 0, 1) := by decide +kernel
theorem dX8_isSeen_8 : decode cX8_isSeen 8 = .ok (.getfield 50, 3) := by decide +kernel
theorem dX8_isSeen_11 : decode cX8_isSeen 11 = .ok (.iload_n 2, 1) := by decide +kernel
theorem dX8_isSeen_12 : decode cX8_isSeen 12 = .ok (.iaload, 1) := by decide +kernel
theorem dX8_isSeen_13 : decode cX8_isSeen 13 = .ok (.iload_n 3, 1) := by decide +kernel
theorem dX8_isSeen_14 : decode cX8_isSeen 14 = .ok (.ifCond .ne 10, 3) := by decide +kernel
theorem dX8_isSeen_17 : decode cX8_isSeen 17 = .ok (.iload_n 1, 1) := by decide +kernel
theorem dX8_isSeen_18 : decode cX8_isSeen 18 = .ok (.invokestatic 105, 3) := by decide +kernel
theorem dX8_isSeen_21 : decode cX8_isSeen 21 = .ok (.goto 34, 3) := by decide +kernel
theorem dX8_isSeen_24 : decode cX8_isSeen 24 = .ok (.iload_n 3, 1) := by decide +kernel
theorem dX8_isSeen_25 : decode cX8_isSeen 25 = .ok (.iconst 1, 1) := by decide +kernel
theorem dX8_isSeen_26 : decode cX8_isSeen 26 = .ok (.if_icmp .ne 10, 3) := by decide +kernel
theorem dX8_isSeen_29 : decode cX8_isSeen 29 = .ok (.iload_n 1, 1) := by decide +kernel
theorem dX8_isSeen_30 : decode cX8_isSeen 30 = .ok (.invokestatic 195, 3) := by decide +kernel
theorem dX8_isSeen_33 : decode cX8_isSeen 33 = .ok (.goto 22, 3) := by decide +kernel
theorem dX8_isSeen_36 : decode cX8_isSeen 36 = .ok (.iload_n 3, 1) := by decide +kernel
theorem dX8_isSeen_37 : decode cX8_isSeen 37 = .ok (.iconst 2, 1) := by decide +kernel
theorem dX8_isSeen_38 : decode cX8_isSeen 38 = .ok (.if_icmp .ne 11, 3) := by decide +kernel
theorem dX8_isSeen_41 : decode cX8_isSeen 41 = .ok (.aload_n 0, 1) := by decide +kernel
theorem dX8_isSeen_42 : decode cX8_isSeen 42 = .ok (.iload_n 1, 1) := by decide +kernel
theorem dX8_isSeen_43 : decode cX8_isSeen 43 = .ok (.invokevirtual 186, 3) := by decide +kernel
theorem dX8_isSeen_46 : decode cX8_isSeen 46 = .ok (.goto 9, 3) := by decide +kernel
theorem dX8_isSeen_49 : decode cX8_isSeen 49 = .ok (.aload_n 0, 1) := by decide +kernel
theorem dX8_isSeen_50 : decode cX8_isSeen 50 = .ok (.getfield 22, 3) := by decide +kernel
theorem dX8_isSeen_53 : decode cX8_isSeen 53 = .ok (.iload_n 1, 1) := by decide +kernel
theorem dX8_isSeen_54 : decode cX8_isSeen 54 = .ok (.iaload, 1) := by decide +kernel
theorem dX8_isSeen_55 : decode cX8_isSeen 55 = .ok (.if_icmp .ne 7, 3) := by decide +kernel
theorem dX8_isSeen_58 : decode cX8_isSeen 58 = .ok (.iconst 1, 1) := by decide +kernel
theorem dX8_isSeen_59 : decode cX8_isSeen 59 = .ok (.goto 4, 3) := by decide +kernel
theorem dX8_isSeen_62 : decode cX8_isSeen 62 = .ok (.iconst 0, 1) := by decide +kernel
theorem dX8_isSeen_63 : decode cX8_isSeen 63 = .ok (.ireturn, 1) := by decide +kernel
theorem dX8_fits_0 : decode cX8_fits 0 = .ok (.iconst 0, 1) := by decide +kernel
theorem dX8_fits_1 : decode cX8_fits 1 = .ok (.istore_n 1, 1) := by decide +kernel
theorem dX8_fits_2 : decode cX8_fits 2 = .ok (.iconst 0, 1) := by decide +kernel
theorem dX8_fits_3 : decode cX8_fits 3 = .ok (.istore_n 2, 1) := by decide +kernel
theorem dX8_fits_4 : decode cX8_fits 4 = .ok (.iload_n 2, 1) := by decide +kernel
theorem dX8_fits_5 : decode cX8_fits 5 = .ok (.bipush 8, 2) := by decide +kernel
theorem dX8_fits_7 : decode cX8_fits 7 = .ok (.if_icmp .ge 62, 3) := by decide +kernel
theorem dX8_fits_10 : decode cX8_fits 10 = .ok (.iconst 1, 1) := by decide +kernel
theorem dX8_fits_11 : decode cX8_fits 11 = .ok (.istore_n 3, 1) := by decide +kernel
theorem dX8_fits_12 : decode cX8_fits 12 = .ok (.iconst 0, 1) := by decide +kernel
theorem dX8_fits_13 : decode cX8_fits 13 = .ok (.istore 4, 2) := by decide +kernel
theorem dX8_fits_15 : decode cX8_fits 15 = .ok (.iload 4, 2) := by decide +kernel
theorem dX8_fits_17 : decode cX8_fits 17 = .ok (.aload_n 0, 1) := by decide +kernel
theorem dX8_fits_18 : decode cX8_fits 18 = .ok (.getfield 226, 3) := by decide +kernel
theorem dX8_fits_21 : decode cX8_fits 21 = .ok (.if_icmp .ge 28, 3) := by decide +kernel
theorem dX8_fits_24 : decode cX8_fits 24 = .ok (.iload_n 3, 1) := by decide +kernel
theorem dX8_fits_25 : decode cX8_fits 25 = .ok (.ifCond .eq 24, 3) := by decide +kernel
theorem dX8_fits_28 : decode cX8_fits 28 = .ok (.aload_n 0, 1) := by decide +kernel
theorem dX8_fits_29 : decode cX8_fits 29 = .ok (.aload_n 0, 1) := by decide +kernel
theorem dX8_fits_30 : decode cX8_fits 30 = .ok (.getfield 125, 3) := by decide +kernel
theorem dX8_fits_33 : decode cX8_fits 33 = .ok (.iconst 1, 1) := by decide +kernel
theorem dX8_fits_34 : decode cX8_fits 34 = .ok (.iload_n 2, 1) := by decide +kernel
theorem dX8_fits_35 : decode cX8_fits 35 = .ok (.ishl, 1) := by decide +kernel
theorem dX8_fits_36 : decode cX8_fits 36 = .ok (.ixor, 1) := by decide +kernel
theorem dX8_fits_37 : decode cX8_fits 37 = .ok (.iload 4, 2) := by decide +kernel
theorem dX8_fits_39 : decode cX8_fits 39 = .ok (.invokevirtual 229, 3) := by decide +kernel
theorem dX8_fits_42 : decode cX8_fits 42 = .ok (.istore_n 3, 1) := by decide +kernel
theorem dX8_fits_43 : decode cX8_fits 43 = .ok (.iinc 4 1, 3) := by decide +kernel
theorem dX8_fits_46 : decode cX8_fits 46 = .ok (.goto (-31), 3) := by decide +kernel
theorem dX8_fits_49 : decode cX8_fits 49 = .ok (.iload_n 1, 1) := by decide +kernel
theorem dX8_fits_50 : decode cX8_fits 50 = .ok (.iload_n 3, 1) := by decide +kernel
theorem dX8_fits_51 : decode cX8_fits 51 = .ok (.ifCond .eq 9, 3) := by decide +kernel
theorem dX8_fits_54 : decode cX8_fits 54 = .ok (.iconst 1, 1) := by decide +kernel
theorem dX8_fits_55 : decode cX8_fits 55 = .ok (.iload_n 2, 1) := by decide +kernel
theorem dX8_fits_56 : decode cX8_fits 56 = .ok (.ishl, 1) := by decide +kernel
theorem dX8_fits_57 : decode cX8_fits 57 = .ok (.goto 4, 3) := by decide +kernel
theorem dX8_fits_60 : decode cX8_fits 60 = .ok (.iconst 0, 1) := by decide +kernel
theorem dX8_fits_61 : decode cX8_fits 61 = .ok (.ior, 1) := by decide +kernel
theorem dX8_fits_62 : decode cX8_fits 62 = .ok (.istore_n 1, 1) := by decide +kernel
theorem dX8_fits_63 : decode cX8_fits 63 = .ok (.iinc 2 1, 3) := by decide +kernel
theorem dX8_fits_66 : decode cX8_fits 66 = .ok (.goto (-62), 3) := by decide +kernel
theorem dX8_fits_69 : decode cX8_fits 69 = .ok (.iload_n 1, 1) := by decide +kernel
theorem dX8_fits_70 : decode cX8_fits 70 = .ok (.ireturn, 1) := by decide +kernel
theorem dX8_partOf_0 : decode cX8_partOf 0 = .ok (.iload_n 0, 1) := by decide +kernel
theorem dX8_partOf_1 : decode cX8_partOf 1 = .ok (.istore_n 3, 1) := by decide +kernel
theorem dX8_partOf_2 : decode cX8_partOf 2 = .ok (.iload_n 1, 1) := by decide +kernel
theorem dX8_partOf_3 : decode cX8_partOf 3 = .ok (.istore 4, 2) := by decide +kernel
theorem dX8_partOf_5 : decode cX8_partOf 5 = .ok (.iload 4, 2) := by decide +kernel
theorem dX8_partOf_7 : decode cX8_partOf 7 = .ok (.ifCond .eq 19, 3) := by decide +kernel
theorem dX8_partOf_10 : decode cX8_partOf 10 = .ok (.iload_n 3, 1) := by decide +kernel
theorem dX8_partOf_11 : decode cX8_partOf 11 = .ok (.iload 4, 2) := by decide +kernel
theorem dX8_partOf_13 : decode cX8_partOf 13 = .ok (.irem, 1) := by decide +kernel
theorem dX8_partOf_14 : decode cX8_partOf 14 = .ok (.istore 5, 2) := by decide +kernel
theorem dX8_partOf_16 : decode cX8_partOf 16 = .ok (.iload 4, 2) := by decide +kernel
theorem dX8_partOf_18 : decode cX8_partOf 18 = .ok (.istore_n 3, 1) := by decide +kernel
theorem dX8_partOf_19 : decode cX8_partOf 19 = .ok (.iload 5, 2) := by decide +kernel
theorem dX8_partOf_21 : decode cX8_partOf 21 = .ok (.istore 4, 2) := by decide +kernel
theorem dX8_partOf_23 : decode cX8_partOf 23 = .ok (.goto (-18), 3) := by decide +kernel
theorem dX8_partOf_26 : decode cX8_partOf 26 = .ok (.iload_n 2, 1) := by decide +kernel
theorem dX8_partOf_27 : decode cX8_partOf 27 = .ok (.ifCond .ne 10, 3) := by decide +kernel
theorem dX8_partOf_30 : decode cX8_partOf 30 = .ok (.iload_n 0, 1) := by decide +kernel
theorem dX8_partOf_31 : decode cX8_partOf 31 = .ok (.iload_n 3, 1) := by decide +kernel
theorem dX8_partOf_32 : decode cX8_partOf 32 = .ok (.idiv, 1) := by decide +kernel
theorem dX8_partOf_33 : decode cX8_partOf 33 = .ok (.i2l, 1) := by decide +kernel
theorem dX8_partOf_34 : decode cX8_partOf 34 = .ok (.goto 7, 3) := by decide +kernel
theorem dX8_partOf_37 : decode cX8_partOf 37 = .ok (.iload_n 1, 1) := by decide +kernel
theorem dX8_partOf_38 : decode cX8_partOf 38 = .ok (.iload_n 3, 1) := by decide +kernel
theorem dX8_partOf_39 : decode cX8_partOf 39 = .ok (.idiv, 1) := by decide +kernel
theorem dX8_partOf_40 : decode cX8_partOf 40 = .ok (.i2l, 1) := by decide +kernel
theorem dX8_partOf_41 : decode cX8_partOf 41 = .ok (.lreturn, 1) := by decide +kernel
theorem dX8_odds_0 : decode cX8_odds 0 = .ok (.iload_n 1, 1) := by decide +kernel
theorem dX8_odds_1 : decode cX8_odds 1 = .ok (.invokestatic 122, 3) := by decide +kernel
theorem dX8_odds_4 : decode cX8_odds 4 = .ok (.ifCond .eq 12, 3) := by decide +kernel
theorem dX8_odds_7 : decode cX8_odds 7 = .ok (.iload_n 2, 1) := by decide +kernel
theorem dX8_odds_8 : decode cX8_odds 8 = .ok (.iconst 0, 1) := by decide +kernel
theorem dX8_odds_9 : decode cX8_odds 9 = .ok (.iconst 1, 1) := by decide +kernel
theorem dX8_odds_10 : decode cX8_odds 10 = .ok (.invokestatic 5, 3) := by decide +kernel
theorem dX8_odds_13 : decode cX8_odds 13 = .ok (.ifCond .ne 7, 3) := by decide +kernel
theorem dX8_odds_16 : decode cX8_odds 16 = .ok (.ldc2_w 216, 3) := by decide +kernel
theorem dX8_odds_19 : decode cX8_odds 19 = .ok (.lreturn, 1) := by decide +kernel
theorem dX8_odds_20 : decode cX8_odds 20 = .ok (.iconst 0, 1) := by decide +kernel
theorem dX8_odds_21 : decode cX8_odds 21 = .ok (.istore_n 3, 1) := by decide +kernel
theorem dX8_odds_22 : decode cX8_odds 22 = .ok (.iconst 0, 1) := by decide +kernel
theorem dX8_odds_23 : decode cX8_odds 23 = .ok (.istore 4, 2) := by decide +kernel
theorem dX8_odds_25 : decode cX8_odds 25 = .ok (.iload 4, 2) := by decide +kernel
theorem dX8_odds_27 : decode cX8_odds 27 = .ok (.bipush 48, 2) := by decide +kernel
theorem dX8_odds_29 : decode cX8_odds 29 = .ok (.if_icmp .ge 26, 3) := by decide +kernel
theorem dX8_odds_32 : decode cX8_odds 32 = .ok (.iload_n 3, 1) := by decide +kernel
theorem dX8_odds_33 : decode cX8_odds 33 = .ok (.aload_n 0, 1) := by decide +kernel
theorem dX8_odds_34 : decode cX8_odds 34 = .ok (.aload_n 0, 1) := by decide +kernel
theorem dX8_odds_35 : decode cX8_odds 35 = .ok (.getfield 125, 3) := by decide +kernel
theorem dX8_odds_38 : decode cX8_odds 38 = .ok (.iload 4, 2) := by decide +kernel
theorem dX8_odds_40 : decode cX8_odds 40 = .ok (.invokevirtual 81, 3) := by decide +kernel
theorem dX8_odds_43 : decode cX8_odds 43 = .ok (.iload_n 1, 1) := by decide +kernel
theorem dX8_odds_44 : decode cX8_odds 44 = .ok (.ishr, 1) := by decide +kernel
theorem dX8_odds_45 : decode cX8_odds 45 = .ok (.iconst 1, 1) := by decide +kernel
theorem dX8_odds_46 : decode cX8_odds 46 = .ok (.iand, 1) := by decide +kernel
theorem dX8_odds_47 : decode cX8_odds 47 = .ok (.iadd, 1) := by decide +kernel
theorem dX8_odds_48 : decode cX8_odds 48 = .ok (.istore_n 3, 1) := by decide +kernel
theorem dX8_odds_49 : decode cX8_odds 49 = .ok (.iinc 4 1, 3) := by decide +kernel
theorem dX8_odds_52 : decode cX8_odds 52 = .ok (.goto (-27), 3) := by decide +kernel
theorem dX8_odds_55 : decode cX8_odds 55 = .ok (.iload_n 3, 1) := by decide +kernel
theorem dX8_odds_56 : decode cX8_odds 56 = .ok (.bipush 48, 2) := by decide +kernel
theorem dX8_odds_58 : decode cX8_odds 58 = .ok (.iload_n 2, 1) := by decide +kernel
theorem dX8_odds_59 : decode cX8_odds 59 = .ok (.invokestatic 233, 3) := by decide +kernel
theorem dX8_odds_62 : decode cX8_odds 62 = .ok (.lreturn, 1) := by decide +kernel
theorem dX8_mean_0 : decode cX8_mean 0 = .ok (.iload_n 1, 1) := by decide +kernel
theorem dX8_mean_1 : decode cX8_mean 1 = .ok (.iconst 0, 1) := by decide +kernel
theorem dX8_mean_2 : decode cX8_mean 2 = .ok (.iconst 1, 1) := by decide +kernel
theorem dX8_mean_3 : decode cX8_mean 3 = .ok (.invokestatic 5, 3) := by decide +kernel
theorem dX8_mean_6 : decode cX8_mean 6 = .ok (.ifCond .ne 7, 3) := by decide +kernel
theorem dX8_mean_9 : decode cX8_mean 9 = .ok (.ldc2_w 216, 3) := by decide +kernel
theorem dX8_mean_12 : decode cX8_mean 12 = .ok (.lreturn, 1) := by decide +kernel
theorem dX8_mean_13 : decode cX8_mean 13 = .ok (.iconst 0, 1) := by decide +kernel
theorem dX8_mean_14 : decode cX8_mean 14 = .ok (.istore_n 2, 1) := by decide +kernel
theorem dX8_mean_15 : decode cX8_mean 15 = .ok (.iconst 0, 1) := by decide +kernel
theorem dX8_mean_16 : decode cX8_mean 16 = .ok (.istore_n 3, 1) := by decide +kernel
theorem dX8_mean_17 : decode cX8_mean 17 = .ok (.iload_n 3, 1) := by decide +kernel
theorem dX8_mean_18 : decode cX8_mean 18 = .ok (.bipush 48, 2) := by decide +kernel
theorem dX8_mean_20 : decode cX8_mean 20 = .ok (.if_icmp .ge 29, 3) := by decide +kernel
theorem dX8_mean_23 : decode cX8_mean 23 = .ok (.iload_n 2, 1) := by decide +kernel
theorem dX8_mean_24 : decode cX8_mean 24 = .ok (.aload_n 0, 1) := by decide +kernel
theorem dX8_mean_25 : decode cX8_mean 25 = .ok (.aload_n 0, 1) := by decide +kernel
theorem dX8_mean_26 : decode cX8_mean 26 = .ok (.getfield 125, 3) := by decide +kernel
theorem dX8_mean_29 : decode cX8_mean 29 = .ok (.iload_n 3, 1) := by decide +kernel
theorem dX8_mean_30 : decode cX8_mean 30 = .ok (.invokevirtual 81, 3) := by decide +kernel
theorem dX8_mean_33 : decode cX8_mean 33 = .ok (.aload_n 0, 1) := by decide +kernel
theorem dX8_mean_34 : decode cX8_mean 34 = .ok (.getfield 132, 3) := by decide +kernel
theorem dX8_mean_37 : decode cX8_mean 37 = .ok (.iand, 1) := by decide +kernel
theorem dX8_mean_38 : decode cX8_mean 38 = .ok (.invokestatic 105, 3) := by decide +kernel
theorem dX8_mean_41 : decode cX8_mean 41 = .ok (.iadd, 1) := by decide +kernel
theorem dX8_mean_42 : decode cX8_mean 42 = .ok (.istore_n 2, 1) := by decide +kernel
theorem dX8_mean_43 : decode cX8_mean 43 = .ok (.iinc 3 1, 3) := by decide +kernel
theorem dX8_mean_46 : decode cX8_mean 46 = .ok (.goto (-29), 3) := by decide +kernel
theorem dX8_mean_49 : decode cX8_mean 49 = .ok (.iload_n 2, 1) := by decide +kernel
theorem dX8_mean_50 : decode cX8_mean 50 = .ok (.bipush 48, 2) := by decide +kernel
theorem dX8_mean_52 : decode cX8_mean 52 = .ok (.iload_n 1, 1) := by decide +kernel
theorem dX8_mean_53 : decode cX8_mean 53 = .ok (.invokestatic 233, 3) := by decide +kernel
theorem dX8_mean_56 : decode cX8_mean 56 = .ok (.lreturn, 1) := by decide +kernel
theorem dX8_event_0 : decode cX8_event 0 = .ok (.iload_n 1, 1) := by decide +kernel
theorem dX8_event_1 : decode cX8_event 1 = .ok (.iconst (-1), 1) := by decide +kernel
theorem dX8_event_2 : decode cX8_event 2 = .ok (.if_icmp .ne 10, 3) := by decide +kernel
theorem dX8_event_5 : decode cX8_event 5 = .ok (.aload_n 0, 1) := by decide +kernel
theorem dX8_event_6 : decode cX8_event 6 = .ok (.iconst 0, 1) := by decide +kernel
theorem dX8_event_7 : decode cX8_event 7 = .ok (.putfield 237, 3) := by decide +kernel
theorem dX8_event_10 : decode cX8_event 10 = .ok (.iconst 0, 1) := by decide +kernel
theorem dX8_event_11 : decode cX8_event 11 = .ok (.ireturn, 1) := by decide +kernel
theorem dX8_event_12 : decode cX8_event 12 = .ok (.iload_n 1, 1) := by decide +kernel
theorem dX8_event_13 : decode cX8_event 13 = .ok (.iconst 0, 1) := by decide +kernel
theorem dX8_event_14 : decode cX8_event 14 = .ok (.iconst 2, 1) := by decide +kernel
theorem dX8_event_15 : decode cX8_event 15 = .ok (.invokestatic 5, 3) := by decide +kernel
theorem dX8_event_18 : decode cX8_event 18 = .ok (.ifCond .eq 26, 3) := by decide +kernel
theorem dX8_event_21 : decode cX8_event 21 = .ok (.iload_n 1, 1) := by decide +kernel
theorem dX8_event_22 : decode cX8_event 22 = .ok (.ifCond .ne 10, 3) := by decide +kernel
theorem dX8_event_25 : decode cX8_event 25 = .ok (.iload_n 2, 1) := by decide +kernel
theorem dX8_event_26 : decode cX8_event 26 = .ok (.invokestatic 122, 3) := by decide +kernel
theorem dX8_event_29 : decode cX8_event 29 = .ok (.ifCond .eq 15, 3) := by decide +kernel
theorem dX8_event_32 : decode cX8_event 32 = .ok (.iload_n 1, 1) := by decide +kernel
theorem dX8_event_33 : decode cX8_event 33 = .ok (.iconst 1, 1) := by decide +kernel
theorem dX8_event_34 : decode cX8_event 34 = .ok (.if_icmp .ne 12, 3) := by decide +kernel
theorem dX8_event_37 : decode cX8_event 37 = .ok (.iload_n 2, 1) := by decide +kernel
theorem dX8_event_38 : decode cX8_event 38 = .ok (.invokestatic 129, 3) := by decide +kernel
theorem dX8_event_41 : decode cX8_event 41 = .ok (.ifCond .ne 5, 3) := by decide +kernel
theorem dX8_event_44 : decode cX8_event 44 = .ok (.iconst (-1), 1) := by decide +kernel
theorem dX8_event_45 : decode cX8_event 45 = .ok (.ireturn, 1) := by decide +kernel
theorem dX8_event_46 : decode cX8_event 46 = .ok (.iload_n 1, 1) := by decide +kernel
theorem dX8_event_47 : decode cX8_event 47 = .ok (.iconst 2, 1) := by decide +kernel
theorem dX8_event_48 : decode cX8_event 48 = .ok (.if_icmp .ne 10, 3) := by decide +kernel
theorem dX8_event_51 : decode cX8_event 51 = .ok (.iload_n 2, 1) := by decide +kernel
theorem dX8_event_52 : decode cX8_event 52 = .ok (.ifCond .eq 6, 3) := by decide +kernel
theorem dX8_event_55 : decode cX8_event 55 = .ok (.bipush (-2), 2) := by decide +kernel
theorem dX8_event_57 : decode cX8_event 57 = .ok (.ireturn, 1) := by decide +kernel
theorem dX8_event_58 : decode cX8_event 58 = .ok (.aload_n 0, 1) := by decide +kernel
theorem dX8_event_59 : decode cX8_event 59 = .ok (.getfield 237, 3) := by decide +kernel
theorem dX8_event_62 : decode cX8_event 62 = .ok (.bipush 8, 2) := by decide +kernel
theorem dX8_event_64 : decode cX8_event 64 = .ok (.if_icmp .ne 6, 3) := by decide +kernel
theorem dX8_event_67 : decode cX8_event 67 = .ok (.bipush (-4), 2) := by decide +kernel
theorem dX8_event_69 : decode cX8_event 69 = .ok (.ireturn, 1) := by decide +kernel
theorem dX8_event_70 : decode cX8_event 70 = .ok (.aload_n 0, 1) := by decide +kernel
theorem dX8_event_71 : decode cX8_event 71 = .ok (.getfield 53, 3) := by decide +kernel
theorem dX8_event_74 : decode cX8_event 74 = .ok (.aload_n 0, 1) := by decide +kernel
theorem dX8_event_75 : decode cX8_event 75 = .ok (.getfield 237, 3) := by decide +kernel
theorem dX8_event_78 : decode cX8_event 78 = .ok (.iload_n 1, 1) := by decide +kernel
theorem dX8_event_79 : decode cX8_event 79 = .ok (.iastore, 1) := by decide +kernel
theorem dX8_event_80 : decode cX8_event 80 = .ok (.aload_n 0, 1) := by decide +kernel
theorem dX8_event_81 : decode cX8_event 81 = .ok (.getfield 56, 3) := by decide +kernel
theorem dX8_event_84 : decode cX8_event 84 = .ok (.aload_n 0, 1) := by decide +kernel
theorem dX8_event_85 : decode cX8_event 85 = .ok (.getfield 237, 3) := by decide +kernel
theorem dX8_event_88 : decode cX8_event 88 = .ok (.iload_n 2, 1) := by decide +kernel
theorem dX8_event_89 : decode cX8_event 89 = .ok (.iastore, 1) := by decide +kernel
theorem dX8_event_90 : decode cX8_event 90 = .ok (.aload_n 0, 1) := by decide +kernel
theorem dX8_event_91 : decode cX8_event 91 = .ok (.dup, 1) := by decide +kernel
theorem dX8_event_92 : decode cX8_event 92 = .ok (.getfield 237, 3) := by decide +kernel
theorem dX8_event_95 : decode cX8_event 95 = .ok (.iconst 1, 1) := by decide +kernel
theorem dX8_event_96 : decode cX8_event 96 = .ok (.iadd, 1) := by decide +kernel
theorem dX8_event_97 : decode cX8_event 97 = .ok (.putfield 237, 3) := by decide +kernel
theorem dX8_event_100 : decode cX8_event 100 = .ok (.aload_n 0, 1) := by decide +kernel
theorem dX8_event_101 : decode cX8_event 101 = .ok (.getfield 237, 3) := by decide +kernel
theorem dX8_event_104 : decode cX8_event 104 = .ok (.ireturn, 1) := by decide +kernel
theorem dX8_after_0 : decode cX8_after 0 = .ok (.iload_n 1, 1) := by decide +kernel
theorem dX8_after_1 : decode cX8_after 1 = .ok (.iconst 0, 1) := by decide +kernel
theorem dX8_after_2 : decode cX8_after 2 = .ok (.iconst 2, 1) := by decide +kernel
theorem dX8_after_3 : decode cX8_after 3 = .ok (.invokestatic 5, 3) := by decide +kernel
theorem dX8_after_6 : decode cX8_after 6 = .ok (.ifCond .ne 5, 3) := by decide +kernel
theorem dX8_after_9 : decode cX8_after 9 = .ok (.iconst (-1), 1) := by decide +kernel
theorem dX8_after_10 : decode cX8_after 10 = .ok (.ireturn, 1) := by decide +kernel
theorem dX8_after_11 : decode cX8_after 11 = .ok (.aload_n 0, 1) := by decide +kernel
theorem dX8_after_12 : decode cX8_after 12 = .ok (.getfield 125, 3) := by decide +kernel
theorem dX8_after_15 : decode cX8_after 15 = .ok (.istore_n 2, 1) := by decide +kernel
theorem dX8_after_16 : decode cX8_after 16 = .ok (.iconst 0, 1) := by decide +kernel
theorem dX8_after_17 : decode cX8_after 17 = .ok (.istore_n 3, 1) := by decide +kernel
theorem dX8_after_18 : decode cX8_after 18 = .ok (.iload_n 3, 1) := by decide +kernel
theorem dX8_after_19 : decode cX8_after 19 = .ok (.aload_n 0, 1) := by decide +kernel
theorem dX8_after_20 : decode cX8_after 20 = .ok (.getfield 237, 3) := by decide +kernel
theorem dX8_after_23 : decode cX8_after 23 = .ok (.if_icmp .ge 61, 3) := by decide +kernel
theorem dX8_after_26 : decode cX8_after 26 = .ok (.aload_n 0, 1) := by decide +kernel
theorem dX8_after_27 : decode cX8_after 27 = .ok (.getfield 53, 3) := by decide +kernel
theorem dX8_after_30 : decode cX8_after 30 = .ok (.iload_n 3, 1) := by decide +kernel
theorem dX8_after_31 : decode cX8_after 31 = .ok (.iaload, 1) := by decide +kernel
theorem dX8_after_32 : decode cX8_after 32 = .ok (.ifCond .ne 16, 3) := by decide +kernel
theorem dX8_after_35 : decode cX8_after 35 = .ok (.iload_n 2, 1) := by decide +kernel
theorem dX8_after_36 : decode cX8_after 36 = .ok (.iconst 1, 1) := by decide +kernel
theorem dX8_after_37 : decode cX8_after 37 = .ok (.aload_n 0, 1) := by decide +kernel
theorem dX8_after_38 : decode cX8_after 38 = .ok (.getfield 56, 3) := by decide +kernel
theorem dX8_after_41 : decode cX8_after 41 = .ok (.iload_n 3, 1) := by decide +kernel
theorem dX8_after_42 : decode cX8_after 42 = .ok (.iaload, 1) := by decide +kernel
theorem dX8_after_43 : decode cX8_after 43 = .ok (.ishl, 1) := by decide +kernel
theorem dX8_after_44 : decode cX8_after 44 = .ok (.ixor, 1) := by decide +kernel
theorem dX8_after_45 : decode cX8_after 45 = .ok (.goto 32, 3) := by decide +kernel
theorem dX8_after_48 : decode cX8_after 48 = .ok (.aload_n 0, 1) := by decide +kernel
theorem dX8_after_49 : decode cX8_after 49 = .ok (.getfield 53, 3) := by decide +kernel
theorem dX8_after_52 : decode cX8_after 52 = .ok (.iload_n 3, 1) := by decide +kernel
theorem dX8_after_53 : decode cX8_after 53 = .ok (.iaload, 1) := by decide +kernel
theorem dX8_after_54 : decode cX8_after 54 = .ok (.iconst 1, 1) := by decide +kernel
theorem dX8_after_55 : decode cX8_after 55 = .ok (.if_icmp .ne 17, 3) := by decide +kernel
theorem dX8_after_58 : decode cX8_after 58 = .ok (.aload_n 0, 1) := by decide +kernel
theorem dX8_after_59 : decode cX8_after 59 = .ok (.iload_n 2, 1) := by decide +kernel
theorem dX8_after_60 : decode cX8_after 60 = .ok (.aload_n 0, 1) := by decide +kernel
theorem dX8_after_61 : decode cX8_after 61 = .ok (.getfield 56, 3) := by decide +kernel
theorem dX8_after_64 : decode cX8_after 64 = .ok (.iload_n 3, 1) := by decide +kernel
theorem dX8_after_65 : decode cX8_after 65 = .ok (.iaload, 1) := by decide +kernel
theorem dX8_after_66 : decode cX8_after 66 = .ok (.invokevirtual 81, 3) := by decide +kernel
theorem dX8_after_69 : decode cX8_after 69 = .ok (.goto 8, 3) := by decide +kernel
theorem dX8_after_72 : decode cX8_after 72 = .ok (.sipush 255, 3) := by decide +kernel
theorem dX8_after_75 : decode cX8_after 75 = .ok (.iload_n 2, 1) := by decide +kernel
theorem dX8_after_76 : decode cX8_after 76 = .ok (.isub, 1) := by decide +kernel
theorem dX8_after_77 : decode cX8_after 77 = .ok (.istore_n 2, 1) := by decide +kernel
theorem dX8_after_78 : decode cX8_after 78 = .ok (.iinc 3 1, 3) := by decide +kernel
theorem dX8_after_81 : decode cX8_after 81 = .ok (.goto (-63), 3) := by decide +kernel
theorem dX8_after_84 : decode cX8_after 84 = .ok (.iload_n 1, 1) := by decide +kernel
theorem dX8_after_85 : decode cX8_after 85 = .ok (.ifCond .ne 7, 3) := by decide +kernel
theorem dX8_after_88 : decode cX8_after 88 = .ok (.iload_n 2, 1) := by decide +kernel
theorem dX8_after_89 : decode cX8_after 89 = .ok (.goto 21, 3) := by decide +kernel
theorem dX8_after_92 : decode cX8_after 92 = .ok (.iload_n 1, 1) := by decide +kernel
theorem dX8_after_93 : decode cX8_after 93 = .ok (.iconst 1, 1) := by decide +kernel
theorem dX8_after_94 : decode cX8_after 94 = .ok (.if_icmp .ne 10, 3) := by decide +kernel
theorem dX8_after_97 : decode cX8_after 97 = .ok (.iload_n 2, 1) := by decide +kernel
theorem dX8_after_98 : decode cX8_after 98 = .ok (.invokestatic 195, 3) := by decide +kernel
theorem dX8_after_101 : decode cX8_after 101 = .ok (.goto 9, 3) := by decide +kernel
theorem dX8_after_104 : decode cX8_after 104 = .ok (.aload_n 0, 1) := by decide +kernel
theorem dX8_after_105 : decode cX8_after 105 = .ok (.getfield 22, 3) := by decide +kernel
theorem dX8_after_108 : decode cX8_after 108 = .ok (.iload_n 2, 1) := by decide +kernel
theorem dX8_after_109 : decode cX8_after 109 = .ok (.iaload, 1) := by decide +kernel
theorem dX8_after_110 : decode cX8_after 110 = .ok (.ireturn, 1) := by decide +kernel
theorem dX8_book_0 : decode cX8_book 0 = .ok (.iload_n 1, 1) := by decide +kernel
theorem dX8_book_1 : decode cX8_book 1 = .ok (.iconst (-1), 1) := by decide +kernel
theorem dX8_book_2 : decode cX8_book 2 = .ok (.if_icmp .ne 10, 3) := by decide +kernel
theorem dX8_book_5 : decode cX8_book 5 = .ok (.aload_n 0, 1) := by decide +kernel
theorem dX8_book_6 : decode cX8_book 6 = .ok (.iconst 0, 1) := by decide +kernel
theorem dX8_book_7 : decode cX8_book 7 = .ok (.putfield 240, 3) := by decide +kernel
theorem dX8_book_10 : decode cX8_book 10 = .ok (.iconst 0, 1) := by decide +kernel
theorem dX8_book_11 : decode cX8_book 11 = .ok (.ireturn, 1) := by decide +kernel
theorem dX8_book_12 : decode cX8_book 12 = .ok (.iload_n 1, 1) := by decide +kernel
theorem dX8_book_13 : decode cX8_book 13 = .ok (.invokestatic 122, 3) := by decide +kernel
theorem dX8_book_16 : decode cX8_book 16 = .ok (.ifCond .ne 5, 3) := by decide +kernel
theorem dX8_book_19 : decode cX8_book 19 = .ok (.iconst (-1), 1) := by decide +kernel
theorem dX8_book_20 : decode cX8_book 20 = .ok (.ireturn, 1) := by decide +kernel
theorem dX8_book_21 : decode cX8_book 21 = .ok (.iload_n 2, 1) := by decide +kernel
theorem dX8_book_22 : decode cX8_book 22 = .ok (.iconst 0, 1) := by decide +kernel
theorem dX8_book_23 : decode cX8_book 23 = .ok (.iconst 1, 1) := by decide +kernel
theorem dX8_book_24 : decode cX8_book 24 = .ok (.invokestatic 5, 3) := by decide +kernel
theorem dX8_book_27 : decode cX8_book 27 = .ok (.ifCond .ne 6, 3) := by decide +kernel
theorem dX8_book_30 : decode cX8_book 30 = .ok (.bipush (-2), 2) := by decide +kernel
theorem dX8_book_32 : decode cX8_book 32 = .ok (.ireturn, 1) := by decide +kernel
theorem dX8_book_33 : decode cX8_book 33 = .ok (.aload_n 0, 1) := by decide +kernel
theorem dX8_book_34 : decode cX8_book 34 = .ok (.getfield 240, 3) := by decide +kernel
theorem dX8_book_37 : decode cX8_book 37 = .ok (.bipush 8, 2) := by decide +kernel
theorem dX8_book_39 : decode cX8_book 39 = .ok (.if_icmp .ne 6, 3) := by decide +kernel
theorem dX8_book_42 : decode cX8_book 42 = .ok (.bipush (-4), 2) := by decide +kernel
theorem dX8_book_44 : decode cX8_book 44 = .ok (.ireturn, 1) := by decide +kernel
theorem dX8_book_45 : decode cX8_book 45 = .ok (.aload_n 0, 1) := by decide +kernel
theorem dX8_book_46 : decode cX8_book 46 = .ok (.getfield 59, 3) := by decide +kernel
theorem dX8_book_49 : decode cX8_book 49 = .ok (.aload_n 0, 1) := by decide +kernel
theorem dX8_book_50 : decode cX8_book 50 = .ok (.getfield 240, 3) := by decide +kernel
theorem dX8_book_53 : decode cX8_book 53 = .ok (.iload_n 1, 1) := by decide +kernel
theorem dX8_book_54 : decode cX8_book 54 = .ok (.iastore, 1) := by decide +kernel
theorem dX8_book_55 : decode cX8_book 55 = .ok (.aload_n 0, 1) := by decide +kernel
theorem dX8_book_56 : decode cX8_book 56 = .ok (.getfield 62, 3) := by decide +kernel
theorem dX8_book_59 : decode cX8_book 59 = .ok (.aload_n 0, 1) := by decide +kernel
theorem dX8_book_60 : decode cX8_book 60 = .ok (.getfield 240, 3) := by decide +kernel
theorem dX8_book_63 : decode cX8_book 63 = .ok (.iload_n 2, 1) := by decide +kernel
theorem dX8_book_64 : decode cX8_book 64 = .ok (.iastore, 1) := by decide +kernel
theorem dX8_book_65 : decode cX8_book 65 = .ok (.aload_n 0, 1) := by decide +kernel
theorem dX8_book_66 : decode cX8_book 66 = .ok (.dup, 1) := by decide +kernel
theorem dX8_book_67 : decode cX8_book 67 = .ok (.getfield 240, 3) := by decide +kernel
theorem dX8_book_70 : decode cX8_book 70 = .ok (.iconst 1, 1) := by decide +kernel
theorem dX8_book_71 : decode cX8_book 71 = .ok (.iadd, 1) := by decide +kernel
theorem dX8_book_72 : decode cX8_book 72 = .ok (.putfield 240, 3) := by decide +kernel
theorem dX8_book_75 : decode cX8_book 75 = .ok (.aload_n 0, 1) := by decide +kernel
theorem dX8_book_76 : decode cX8_book 76 = .ok (.getfield 240, 3) := by decide +kernel
theorem dX8_book_79 : decode cX8_book 79 = .ok (.ireturn, 1) := by decide +kernel
theorem dX8_looked_0 : decode cX8_looked 0 = .ok (.iconst 0, 1) := by decide +kernel
theorem dX8_looked_1 : decode cX8_looked 1 = .ok (.istore_n 1, 1) := by decide +kernel
theorem dX8_looked_2 : decode cX8_looked 2 = .ok (.iload_n 1, 1) := by decide +kernel
theorem dX8_looked_3 : decode cX8_looked 3 = .ok (.aload_n 0, 1) := by decide +kernel
theorem dX8_looked_4 : decode cX8_looked 4 = .ok (.getfield 240, 3) := by decide +kernel
theorem dX8_looked_7 : decode cX8_looked 7 = .ok (.if_icmp .ge 33, 3) := by decide +kernel
theorem dX8_looked_10 : decode cX8_looked 10 = .ok (.aload_n 0, 1) := by decide +kernel
theorem dX8_looked_11 : decode cX8_looked 11 = .ok (.getfield 125, 3) := by decide +kernel
theorem dX8_looked_14 : decode cX8_looked 14 = .ok (.aload_n 0, 1) := by decide +kernel
theorem dX8_looked_15 : decode cX8_looked 15 = .ok (.getfield 59, 3) := by decide +kernel
theorem dX8_looked_18 : decode cX8_looked 18 = .ok (.iload_n 1, 1) := by decide +kernel
theorem dX8_looked_19 : decode cX8_looked 19 = .ok (.iaload, 1) := by decide +kernel
theorem dX8_looked_20 : decode cX8_looked 20 = .ok (.ishr, 1) := by decide +kernel
theorem dX8_looked_21 : decode cX8_looked 21 = .ok (.iconst 1, 1) := by decide +kernel
theorem dX8_looked_22 : decode cX8_looked 22 = .ok (.iand, 1) := by decide +kernel
theorem dX8_looked_23 : decode cX8_looked 23 = .ok (.aload_n 0, 1) := by decide +kernel
theorem dX8_looked_24 : decode cX8_looked 24 = .ok (.getfield 62, 3) := by decide +kernel
theorem dX8_looked_27 : decode cX8_looked 27 = .ok (.iload_n 1, 1) := by decide +kernel
theorem dX8_looked_28 : decode cX8_looked 28 = .ok (.iaload, 1) := by decide +kernel
theorem dX8_looked_29 : decode cX8_looked 29 = .ok (.if_icmp .eq 5, 3) := by decide +kernel
theorem dX8_looked_32 : decode cX8_looked 32 = .ok (.iload_n 1, 1) := by decide +kernel
theorem dX8_looked_33 : decode cX8_looked 33 = .ok (.ireturn, 1) := by decide +kernel
theorem dX8_looked_34 : decode cX8_looked 34 = .ok (.iinc 1 1, 3) := by decide +kernel
theorem dX8_looked_37 : decode cX8_looked 37 = .ok (.goto (-35), 3) := by decide +kernel
theorem dX8_looked_40 : decode cX8_looked 40 = .ok (.bipush (-5), 2) := by decide +kernel
theorem dX8_looked_42 : decode cX8_looked 42 = .ok (.ireturn, 1) := by decide +kernel
theorem dX8_judge_0 : decode cX8_judge 0 = .ok (.iload_n 1, 1) := by decide +kernel
theorem dX8_judge_1 : decode cX8_judge 1 = .ok (.invokestatic 243, 3) := by decide +kernel
theorem dX8_judge_4 : decode cX8_judge 4 = .ok (.ifCond .ne 5, 3) := by decide +kernel
theorem dX8_judge_7 : decode cX8_judge 7 = .ok (.iconst (-1), 1) := by decide +kernel
theorem dX8_judge_8 : decode cX8_judge 8 = .ok (.ireturn, 1) := by decide +kernel
theorem dX8_judge_9 : decode cX8_judge 9 = .ok (.aload_n 0, 1) := by decide +kernel
theorem dX8_judge_10 : decode cX8_judge 10 = .ok (.getfield 71, 3) := by decide +kernel
theorem dX8_judge_13 : decode cX8_judge 13 = .ok (.iload_n 1, 1) := by decide +kernel
theorem dX8_judge_14 : decode cX8_judge 14 = .ok (.iaload, 1) := by decide +kernel
theorem dX8_judge_15 : decode cX8_judge 15 = .ok (.ifCond .lt 16, 3) := by decide +kernel
theorem dX8_judge_18 : decode cX8_judge 18 = .ok (.aload_n 0, 1) := by decide +kernel
theorem dX8_judge_19 : decode cX8_judge 19 = .ok (.getfield 68, 3) := by decide +kernel
theorem dX8_judge_22 : decode cX8_judge 22 = .ok (.iload_n 1, 1) := by decide +kernel
theorem dX8_judge_23 : decode cX8_judge 23 = .ok (.iaload, 1) := by decide +kernel
theorem dX8_judge_24 : decode cX8_judge 24 = .ok (.iconst 4, 1) := by decide +kernel
theorem dX8_judge_25 : decode cX8_judge 25 = .ok (.if_icmp .eq 6, 3) := by decide +kernel
theorem dX8_judge_28 : decode cX8_judge 28 = .ok (.bipush (-12), 2) := by decide +kernel
theorem dX8_judge_30 : decode cX8_judge 30 = .ok (.ireturn, 1) := by decide +kernel
theorem dX8_judge_31 : decode cX8_judge 31 = .ok (.iconst 0, 1) := by decide +kernel
theorem dX8_judge_32 : decode cX8_judge 32 = .ok (.istore_n 3, 1) := by decide +kernel
theorem dX8_judge_33 : decode cX8_judge 33 = .ok (.iload_n 3, 1) := by decide +kernel
theorem dX8_judge_34 : decode cX8_judge 34 = .ok (.bipush 8, 2) := by decide +kernel
theorem dX8_judge_36 : decode cX8_judge 36 = .ok (.if_icmp .ge 58, 3) := by decide +kernel
theorem dX8_judge_39 : decode cX8_judge 39 = .ok (.iload_n 2, 1) := by decide +kernel
theorem dX8_judge_40 : decode cX8_judge 40 = .ok (.ifCond .lt 15, 3) := by decide +kernel
theorem dX8_judge_43 : decode cX8_judge 43 = .ok (.iload_n 2, 1) := by decide +kernel
theorem dX8_judge_44 : decode cX8_judge 44 = .ok (.aload_n 0, 1) := by decide +kernel
theorem dX8_judge_45 : decode cX8_judge 45 = .ok (.getfield 71, 3) := by decide +kernel
theorem dX8_judge_48 : decode cX8_judge 48 = .ok (.iload_n 1, 1) := by decide +kernel
theorem dX8_judge_49 : decode cX8_judge 49 = .ok (.iaload, 1) := by decide +kernel
theorem dX8_judge_50 : decode cX8_judge 50 = .ok (.iload_n 3, 1) := by decide +kernel
theorem dX8_judge_51 : decode cX8_judge 51 = .ok (.isub, 1) := by decide +kernel
theorem dX8_judge_52 : decode cX8_judge 52 = .ok (.if_icmp .lt 8, 3) := by decide +kernel
theorem dX8_judge_55 : decode cX8_judge 55 = .ok (.bipush 100, 2) := by decide +kernel
theorem dX8_judge_57 : decode cX8_judge 57 = .ok (.iload_n 3, 1) := by decide +kernel
theorem dX8_judge_58 : decode cX8_judge 58 = .ok (.iadd, 1) := by decide +kernel
theorem dX8_judge_59 : decode cX8_judge 59 = .ok (.ireturn, 1) := by decide +kernel
theorem dX8_judge_60 : decode cX8_judge 60 = .ok (.aload_n 0, 1) := by decide +kernel
theorem dX8_judge_61 : decode cX8_judge 61 = .ok (.getfield 74, 3) := by decide +kernel
theorem dX8_judge_64 : decode cX8_judge 64 = .ok (.bipush 60, 2) := by decide +kernel
theorem dX8_judge_66 : decode cX8_judge 66 = .ok (.iload_n 1, 1) := by decide +kernel
theorem dX8_judge_67 : decode cX8_judge 67 = .ok (.imul, 1) := by decide +kernel
theorem dX8_judge_68 : decode cX8_judge 68 = .ok (.iload_n 2, 1) := by decide +kernel
theorem dX8_judge_69 : decode cX8_judge 69 = .ok (.iadd, 1) := by decide +kernel
theorem dX8_judge_70 : decode cX8_judge 70 = .ok (.iload_n 3, 1) := by decide +kernel
theorem dX8_judge_71 : decode cX8_judge 71 = .ok (.iadd, 1) := by decide +kernel
theorem dX8_judge_72 : decode cX8_judge 72 = .ok (.laload, 1) := by decide +kernel
theorem dX8_judge_73 : decode cX8_judge 73 = .ok (.aload_n 0, 1) := by decide +kernel
theorem dX8_judge_74 : decode cX8_judge 74 = .ok (.getfield 125, 3) := by decide +kernel
theorem dX8_judge_77 : decode cX8_judge 77 = .ok (.iload_n 3, 1) := by decide +kernel
theorem dX8_judge_78 : decode cX8_judge 78 = .ok (.ishr, 1) := by decide +kernel
theorem dX8_judge_79 : decode cX8_judge 79 = .ok (.iconst 1, 1) := by decide +kernel
theorem dX8_judge_80 : decode cX8_judge 80 = .ok (.iand, 1) := by decide +kernel
theorem dX8_judge_81 : decode cX8_judge 81 = .ok (.i2l, 1) := by decide +kernel
theorem dX8_judge_82 : decode cX8_judge 82 = .ok (.lcmp, 1) := by decide +kernel
theorem dX8_judge_83 : decode cX8_judge 83 = .ok (.ifCond .eq 5, 3) := by decide +kernel
theorem dX8_judge_86 : decode cX8_judge 86 = .ok (.iload_n 3, 1) := by decide +kernel
theorem dX8_judge_87 : decode cX8_judge 87 = .ok (.ireturn, 1) := by decide +kernel
theorem dX8_judge_88 : decode cX8_judge 88 = .ok (.iinc 3 1, 3) := by decide +kernel
theorem dX8_judge_91 : decode cX8_judge 91 = .ok (.goto (-58), 3) := by decide +kernel
theorem dX8_judge_94 : decode cX8_judge 94 = .ok (.bipush (-5), 2) := by decide +kernel
theorem dX8_judge_96 : decode cX8_judge 96 = .ok (.ireturn, 1) := by decide +kernel
theorem dX8_passOne_0 : decode cX8_passOne 0 = .ok (.aload_n 0, 1) := by decide +kernel
theorem dX8_passOne_1 : decode cX8_passOne 1 = .ok (.getfield 246, 3) := by decide +kernel
theorem dX8_passOne_4 : decode cX8_passOne 4 = .ok (.ifCond .eq 7, 3) := by decide +kernel
theorem dX8_passOne_7 : decode cX8_passOne 7 = .ok (.iload_n 1, 1) := by decide +kernel
theorem dX8_passOne_8 : decode cX8_passOne 8 = .ok (.goto 12, 3) := by decide +kernel
theorem dX8_passOne_11 : decode cX8_passOne 11 = .ok (.aload_n 0, 1) := by decide +kernel
theorem dX8_passOne_12 : decode cX8_passOne 12 = .ok (.getfield 65, 3) := by decide +kernel
theorem dX8_passOne_15 : decode cX8_passOne 15 = .ok (.aload_n 0, 1) := by decide +kernel
theorem dX8_passOne_16 : decode cX8_passOne 16 = .ok (.getfield 250, 3) := by decide +kernel
theorem dX8_passOne_19 : decode cX8_passOne 19 = .ok (.iaload, 1) := by decide +kernel
theorem dX8_passOne_20 : decode cX8_passOne 20 = .ok (.istore_n 2, 1) := by decide +kernel
theorem dX8_passOne_21 : decode cX8_passOne 21 = .ok (.aload_n 0, 1) := by decide +kernel
theorem dX8_passOne_22 : decode cX8_passOne 22 = .ok (.getfield 65, 3) := by decide +kernel
theorem dX8_passOne_25 : decode cX8_passOne 25 = .ok (.aload_n 0, 1) := by decide +kernel
theorem dX8_passOne_26 : decode cX8_passOne 26 = .ok (.getfield 250, 3) := by decide +kernel
theorem dX8_passOne_29 : decode cX8_passOne 29 = .ok (.iload_n 2, 1) := by decide +kernel
theorem dX8_passOne_30 : decode cX8_passOne 30 = .ok (.iastore, 1) := by decide +kernel
theorem dX8_passOne_31 : decode cX8_passOne 31 = .ok (.aload_n 0, 1) := by decide +kernel
theorem dX8_passOne_32 : decode cX8_passOne 32 = .ok (.dup, 1) := by decide +kernel
theorem dX8_passOne_33 : decode cX8_passOne 33 = .ok (.getfield 250, 3) := by decide +kernel
theorem dX8_passOne_36 : decode cX8_passOne 36 = .ok (.iconst 1, 1) := by decide +kernel
theorem dX8_passOne_37 : decode cX8_passOne 37 = .ok (.iadd, 1) := by decide +kernel
theorem dX8_passOne_38 : decode cX8_passOne 38 = .ok (.putfield 250, 3) := by decide +kernel
theorem dX8_passOne_41 : decode cX8_passOne 41 = .ok (.iload_n 2, 1) := by decide +kernel
theorem dX8_passOne_42 : decode cX8_passOne 42 = .ok (.ireturn, 1) := by decide +kernel
theorem dX8_passes_0 : decode cX8_passes 0 = .ok (.iconst 0, 1) := by decide +kernel
theorem dX8_passes_1 : decode cX8_passes 1 = .ok (.istore_n 3, 1) := by decide +kernel
theorem dX8_passes_2 : decode cX8_passes 2 = .ok (.iload_n 3, 1) := by decide +kernel
theorem dX8_passes_3 : decode cX8_passes 3 = .ok (.iload_n 2, 1) := by decide +kernel
theorem dX8_passes_4 : decode cX8_passes 4 = .ok (.if_icmp .ge 19, 3) := by decide +kernel
theorem dX8_passes_7 : decode cX8_passes 7 = .ok (.aload_n 1, 1) := by decide +kernel
theorem dX8_passes_8 : decode cX8_passes 8 = .ok (.iload_n 3, 1) := by decide +kernel
theorem dX8_passes_9 : decode cX8_passes 9 = .ok (.aload_n 0, 1) := by decide +kernel
theorem dX8_passes_10 : decode cX8_passes 10 = .ok (.aload_n 1, 1) := by decide +kernel
theorem dX8_passes_11 : decode cX8_passes 11 = .ok (.iload_n 3, 1) := by decide +kernel
theorem dX8_passes_12 : decode cX8_passes 12 = .ok (.iaload, 1) := by decide +kernel
theorem dX8_passes_13 : decode cX8_passes 13 = .ok (.invokevirtual 253, 3) := by decide +kernel
theorem dX8_passes_16 : decode cX8_passes 16 = .ok (.iastore, 1) := by decide +kernel
theorem dX8_passes_17 : decode cX8_passes 17 = .ok (.iinc 3 1, 3) := by decide +kernel
theorem dX8_passes_20 : decode cX8_passes 20 = .ok (.goto (-18), 3) := by decide +kernel
theorem dX8_passes_23 : decode cX8_passes 23 = .ok (.return_, 1) := by decide +kernel
theorem dX8_passesAll_0 : decode cX8_passesAll 0 = .ok (.aload_n 0, 1) := by decide +kernel
theorem dX8_passesAll_1 : decode cX8_passesAll 1 = .ok (.iload_n 1, 1) := by decide +kernel
theorem dX8_passesAll_2 : decode cX8_passesAll 2 = .ok (.putfield 246, 3) := by decide +kernel
theorem dX8_passesAll_5 : decode cX8_passesAll 5 = .ok (.aload_n 0, 1) := by decide +kernel
theorem dX8_passesAll_6 : decode cX8_passesAll 6 = .ok (.iconst 0, 1) := by decide +kernel
theorem dX8_passesAll_7 : decode cX8_passesAll 7 = .ok (.putfield 250, 3) := by decide +kernel
theorem dX8_passesAll_10 : decode cX8_passesAll 10 = .ok (.aload_n 0, 1) := by decide +kernel
theorem dX8_passesAll_11 : decode cX8_passesAll 11 = .ok (.aload_n 0, 1) := by decide +kernel
theorem dX8_passesAll_12 : decode cX8_passesAll 12 = .ok (.aload_n 0, 1) := by decide +kernel
theorem dX8_passesAll_13 : decode cX8_passesAll 13 = .ok (.getfield 125, 3) := by decide +kernel
theorem dX8_passesAll_16 : decode cX8_passesAll 16 = .ok (.invokevirtual 253, 3) := by decide +kernel
theorem dX8_passesAll_19 : decode cX8_passesAll 19 = .ok (.putfield 125, 3) := by decide +kernel
theorem dX8_passesAll_22 : decode cX8_passesAll 22 = .ok (.aload_n 0, 1) := by decide +kernel
theorem dX8_passesAll_23 : decode cX8_passesAll 23 = .ok (.aload_n 0, 1) := by decide +kernel
theorem dX8_passesAll_24 : decode cX8_passesAll 24 = .ok (.aload_n 0, 1) := by decide +kernel
theorem dX8_passesAll_25 : decode cX8_passesAll 25 = .ok (.getfield 132, 3) := by decide +kernel
theorem dX8_passesAll_28 : decode cX8_passesAll 28 = .ok (.invokevirtual 253, 3) := by decide +kernel
theorem dX8_passesAll_31 : decode cX8_passesAll 31 = .ok (.putfield 132, 3) := by decide +kernel
theorem dX8_passesAll_34 : decode cX8_passesAll 34 = .ok (.aload_n 0, 1) := by decide +kernel
theorem dX8_passesAll_35 : decode cX8_passesAll 35 = .ok (.aload_n 0, 1) := by decide +kernel
theorem dX8_passesAll_36 : decode cX8_passesAll 36 = .ok (.aload_n 0, 1) := by decide +kernel
theorem dX8_passesAll_37 : decode cX8_passesAll 37 = .ok (.getfield 226, 3) := by decide +kernel
theorem dX8_passesAll_40 : decode cX8_passesAll 40 = .ok (.invokevirtual 253, 3) := by decide +kernel
theorem dX8_passesAll_43 : decode cX8_passesAll 43 = .ok (.putfield 226, 3) := by decide +kernel
theorem dX8_passesAll_46 : decode cX8_passesAll 46 = .ok (.aload_n 0, 1) := by decide +kernel
theorem dX8_passesAll_47 : decode cX8_passesAll 47 = .ok (.aload_n 0, 1) := by decide +kernel
theorem dX8_passesAll_48 : decode cX8_passesAll 48 = .ok (.aload_n 0, 1) := by decide +kernel
theorem dX8_passesAll_49 : decode cX8_passesAll 49 = .ok (.getfield 237, 3) := by decide +kernel
theorem dX8_passesAll_52 : decode cX8_passesAll 52 = .ok (.invokevirtual 253, 3) := by decide +kernel
theorem dX8_passesAll_55 : decode cX8_passesAll 55 = .ok (.putfield 237, 3) := by decide +kernel
theorem dX8_passesAll_58 : decode cX8_passesAll 58 = .ok (.aload_n 0, 1) := by decide +kernel
theorem dX8_passesAll_59 : decode cX8_passesAll 59 = .ok (.aload_n 0, 1) := by decide +kernel
theorem dX8_passesAll_60 : decode cX8_passesAll 60 = .ok (.aload_n 0, 1) := by decide +kernel
theorem dX8_passesAll_61 : decode cX8_passesAll 61 = .ok (.getfield 240, 3) := by decide +kernel
theorem dX8_passesAll_64 : decode cX8_passesAll 64 = .ok (.invokevirtual 253, 3) := by decide +kernel
theorem dX8_passesAll_67 : decode cX8_passesAll 67 = .ok (.putfield 240, 3) := by decide +kernel
theorem dX8_passesAll_70 : decode cX8_passesAll 70 = .ok (.aload_n 0, 1) := by decide +kernel
theorem dX8_passesAll_71 : decode cX8_passesAll 71 = .ok (.aload_n 0, 1) := by decide +kernel
theorem dX8_passesAll_72 : decode cX8_passesAll 72 = .ok (.getfield 47, 3) := by decide +kernel
theorem dX8_passesAll_75 : decode cX8_passesAll 75 = .ok (.iconst 4, 1) := by decide +kernel
theorem dX8_passesAll_76 : decode cX8_passesAll 76 = .ok (.invokevirtual 256, 3) := by decide +kernel
theorem dX8_passesAll_79 : decode cX8_passesAll 79 = .ok (.aload_n 0, 1) := by decide +kernel
theorem dX8_passesAll_80 : decode cX8_passesAll 80 = .ok (.aload_n 0, 1) := by decide +kernel
theorem dX8_passesAll_81 : decode cX8_passesAll 81 = .ok (.getfield 50, 3) := by decide +kernel
theorem dX8_passesAll_84 : decode cX8_passesAll 84 = .ok (.iconst 4, 1) := by decide +kernel
theorem dX8_passesAll_85 : decode cX8_passesAll 85 = .ok (.invokevirtual 256, 3) := by decide +kernel
theorem dX8_passesAll_88 : decode cX8_passesAll 88 = .ok (.aload_n 0, 1) := by decide +kernel
theorem dX8_passesAll_89 : decode cX8_passesAll 89 = .ok (.aload_n 0, 1) := by decide +kernel
theorem dX8_passesAll_90 : decode cX8_passesAll 90 = .ok (.getfield 53, 3) := by decide +kernel
theorem dX8_passesAll_93 : decode cX8_passesAll 93 = .ok (.bipush 8, 2) := by decide +kernel
theorem dX8_passesAll_95 : decode cX8_passesAll 95 = .ok (.invokevirtual 256, 3) := by decide +kernel
theorem dX8_passesAll_98 : decode cX8_passesAll 98 = .ok (.aload_n 0, 1) := by decide +kernel
theorem dX8_passesAll_99 : decode cX8_passesAll 99 = .ok (.aload_n 0, 1) := by decide +kernel
theorem dX8_passesAll_100 : decode cX8_passesAll 100 = .ok (.getfield 56, 3) := by decide +kernel
theorem dX8_passesAll_103 : decode cX8_passesAll 103 = .ok (.bipush 8, 2) := by decide +kernel
theorem dX8_passesAll_105 : decode cX8_passesAll 105 = .ok (.invokevirtual 256, 3) := by decide +kernel
theorem dX8_passesAll_108 : decode cX8_passesAll 108 = .ok (.aload_n 0, 1) := by decide +kernel
theorem dX8_passesAll_109 : decode cX8_passesAll 109 = .ok (.aload_n 0, 1) := by decide +kernel
theorem dX8_passesAll_110 : decode cX8_passesAll 110 = .ok (.getfield 59, 3) := by decide +kernel
theorem dX8_passesAll_113 : decode cX8_passesAll 113 = .ok (.bipush 8, 2) := by decide +kernel
theorem dX8_passesAll_115 : decode cX8_passesAll 115 = .ok (.invokevirtual 256, 3) := by decide +kernel
theorem dX8_passesAll_118 : decode cX8_passesAll 118 = .ok (.aload_n 0, 1) := by decide +kernel
theorem dX8_passesAll_119 : decode cX8_passesAll 119 = .ok (.aload_n 0, 1) := by decide +kernel
theorem dX8_passesAll_120 : decode cX8_passesAll 120 = .ok (.getfield 62, 3) := by decide +kernel
theorem dX8_passesAll_123 : decode cX8_passesAll 123 = .ok (.bipush 8, 2) := by decide +kernel
theorem dX8_passesAll_125 : decode cX8_passesAll 125 = .ok (.invokevirtual 256, 3) := by decide +kernel
theorem dX8_passesAll_128 : decode cX8_passesAll 128 = .ok (.return_, 1) := by decide +kernel
theorem dX8_image_0 : decode cX8_image 0 = .ok (.aload_n 0, 1) := by decide +kernel
theorem dX8_image_1 : decode cX8_image 1 = .ok (.iconst 1, 1) := by decide +kernel
theorem dX8_image_2 : decode cX8_image 2 = .ok (.invokevirtual 260, 3) := by decide +kernel
theorem dX8_image_5 : decode cX8_image 5 = .ok (.aload_n 0, 1) := by decide +kernel
theorem dX8_image_6 : decode cX8_image 6 = .ok (.iconst 1, 1) := by decide +kernel
theorem dX8_image_7 : decode cX8_image 7 = .ok (.putfield 264, 3) := by decide +kernel
theorem dX8_image_10 : decode cX8_image 10 = .ok (.aload_n 0, 1) := by decide +kernel
theorem dX8_image_11 : decode cX8_image 11 = .ok (.getfield 125, 3) := by decide +kernel
theorem dX8_image_14 : decode cX8_image 14 = .ok (.ireturn, 1) := by decide +kernel
theorem dX8_undo_0 : decode cX8_undo 0 = .ok (.aload_n 0, 1) := by decide +kernel
theorem dX8_undo_1 : decode cX8_undo 1 = .ok (.getfield 264, 3) := by decide +kernel
theorem dX8_undo_4 : decode cX8_undo 4 = .ok (.ifCond .ne 6, 3) := by decide +kernel
theorem dX8_undo_7 : decode cX8_undo 7 = .ok (.bipush (-3), 2) := by decide +kernel
theorem dX8_undo_9 : decode cX8_undo 9 = .ok (.ireturn, 1) := by decide +kernel
theorem dX8_undo_10 : decode cX8_undo 10 = .ok (.aload_n 0, 1) := by decide +kernel
theorem dX8_undo_11 : decode cX8_undo 11 = .ok (.iconst 0, 1) := by decide +kernel
theorem dX8_undo_12 : decode cX8_undo 12 = .ok (.invokevirtual 260, 3) := by decide +kernel
theorem dX8_undo_15 : decode cX8_undo 15 = .ok (.aload_n 0, 1) := by decide +kernel
theorem dX8_undo_16 : decode cX8_undo 16 = .ok (.getfield 125, 3) := by decide +kernel
theorem dX8_undo_19 : decode cX8_undo 19 = .ok (.ireturn, 1) := by decide +kernel
theorem dX8_count_0 : decode cX8_count 0 = .ok (.iload_n 1, 1) := by decide +kernel
theorem dX8_count_1 : decode cX8_count 1 = .ok (.ifCond .ne 10, 3) := by decide +kernel
theorem dX8_count_4 : decode cX8_count 4 = .ok (.aload_n 0, 1) := by decide +kernel
theorem dX8_count_5 : decode cX8_count 5 = .ok (.getfield 226, 3) := by decide +kernel
theorem dX8_count_8 : decode cX8_count 8 = .ok (.goto 41, 3) := by decide +kernel
theorem dX8_count_11 : decode cX8_count 11 = .ok (.iload_n 1, 1) := by decide +kernel
theorem dX8_count_12 : decode cX8_count 12 = .ok (.iconst 1, 1) := by decide +kernel
theorem dX8_count_13 : decode cX8_count 13 = .ok (.if_icmp .ne 10, 3) := by decide +kernel
theorem dX8_count_16 : decode cX8_count 16 = .ok (.aload_n 0, 1) := by decide +kernel
theorem dX8_count_17 : decode cX8_count 17 = .ok (.getfield 237, 3) := by decide +kernel
theorem dX8_count_20 : decode cX8_count 20 = .ok (.goto 29, 3) := by decide +kernel
theorem dX8_count_23 : decode cX8_count 23 = .ok (.iload_n 1, 1) := by decide +kernel
theorem dX8_count_24 : decode cX8_count 24 = .ok (.iconst 2, 1) := by decide +kernel
theorem dX8_count_25 : decode cX8_count 25 = .ok (.if_icmp .ne 10, 3) := by decide +kernel
theorem dX8_count_28 : decode cX8_count 28 = .ok (.aload_n 0, 1) := by decide +kernel
theorem dX8_count_29 : decode cX8_count 29 = .ok (.getfield 240, 3) := by decide +kernel
theorem dX8_count_32 : decode cX8_count 32 = .ok (.goto 17, 3) := by decide +kernel
theorem dX8_count_35 : decode cX8_count 35 = .ok (.iload_n 1, 1) := by decide +kernel
theorem dX8_count_36 : decode cX8_count 36 = .ok (.iconst 3, 1) := by decide +kernel
theorem dX8_count_37 : decode cX8_count 37 = .ok (.if_icmp .ne 10, 3) := by decide +kernel
theorem dX8_count_40 : decode cX8_count 40 = .ok (.aload_n 0, 1) := by decide +kernel
theorem dX8_count_41 : decode cX8_count 41 = .ok (.getfield 135, 3) := by decide +kernel
theorem dX8_count_44 : decode cX8_count 44 = .ok (.goto 5, 3) := by decide +kernel
theorem dX8_count_47 : decode cX8_count 47 = .ok (.bipush (-2), 2) := by decide +kernel
theorem dX8_count_49 : decode cX8_count 49 = .ok (.ireturn, 1) := by decide +kernel
theorem dX8_isTape_0 : decode cX8_isTape 0 = .ok (.iload_n 0, 1) := by decide +kernel
theorem dX8_isTape_1 : decode cX8_isTape 1 = .ok (.iconst 0, 1) := by decide +kernel
theorem dX8_isTape_2 : decode cX8_isTape 2 = .ok (.iconst 5, 1) := by decide +kernel
theorem dX8_isTape_3 : decode cX8_isTape 3 = .ok (.invokestatic 5, 3) := by decide +kernel
theorem dX8_isTape_6 : decode cX8_isTape 6 = .ok (.ireturn, 1) := by decide +kernel
theorem dX8_lowest_0 : decode cX8_lowest 0 = .ok (.iload_n 0, 1) := by decide +kernel
theorem dX8_lowest_1 : decode cX8_lowest 1 = .ok (.ifCond .ne 10, 3) := by decide +kernel
theorem dX8_lowest_4 : decode cX8_lowest 4 = .ok (.lload_n 1, 1) := by decide +kernel
theorem dX8_lowest_5 : decode cX8_lowest 5 = .ok (.l2i, 1) := by decide +kernel
theorem dX8_lowest_6 : decode cX8_lowest 6 = .ok (.i2b, 1) := by decide +kernel
theorem dX8_lowest_7 : decode cX8_lowest 7 = .ok (.i2l, 1) := by decide +kernel
theorem dX8_lowest_8 : decode cX8_lowest 8 = .ok (.goto 46, 3) := by decide +kernel
theorem dX8_lowest_11 : decode cX8_lowest 11 = .ok (.iload_n 0, 1) := by decide +kernel
theorem dX8_lowest_12 : decode cX8_lowest 12 = .ok (.iconst 1, 1) := by decide +kernel
theorem dX8_lowest_13 : decode cX8_lowest 13 = .ok (.if_icmp .ne 10, 3) := by decide +kernel
theorem dX8_lowest_16 : decode cX8_lowest 16 = .ok (.lload_n 1, 1) := by decide +kernel
theorem dX8_lowest_17 : decode cX8_lowest 17 = .ok (.l2i, 1) := by decide +kernel
theorem dX8_lowest_18 : decode cX8_lowest 18 = .ok (.i2s, 1) := by decide +kernel
theorem dX8_lowest_19 : decode cX8_lowest 19 = .ok (.i2l, 1) := by decide +kernel
theorem dX8_lowest_20 : decode cX8_lowest 20 = .ok (.goto 34, 3) := by decide +kernel
theorem dX8_lowest_23 : decode cX8_lowest 23 = .ok (.iload_n 0, 1) := by decide +kernel
theorem dX8_lowest_24 : decode cX8_lowest 24 = .ok (.iconst 2, 1) := by decide +kernel
theorem dX8_lowest_25 : decode cX8_lowest 25 = .ok (.if_icmp .ne 9, 3) := by decide +kernel
theorem dX8_lowest_28 : decode cX8_lowest 28 = .ok (.lload_n 1, 1) := by decide +kernel
theorem dX8_lowest_29 : decode cX8_lowest 29 = .ok (.l2i, 1) := by decide +kernel
theorem dX8_lowest_30 : decode cX8_lowest 30 = .ok (.i2l, 1) := by decide +kernel
theorem dX8_lowest_31 : decode cX8_lowest 31 = .ok (.goto 23, 3) := by decide +kernel
theorem dX8_lowest_34 : decode cX8_lowest 34 = .ok (.iload_n 0, 1) := by decide +kernel
theorem dX8_lowest_35 : decode cX8_lowest 35 = .ok (.iconst 3, 1) := by decide +kernel
theorem dX8_lowest_36 : decode cX8_lowest 36 = .ok (.if_icmp .ne 7, 3) := by decide +kernel
theorem dX8_lowest_39 : decode cX8_lowest 39 = .ok (.lload_n 1, 1) := by decide +kernel
theorem dX8_lowest_40 : decode cX8_lowest 40 = .ok (.goto 14, 3) := by decide +kernel
theorem dX8_lowest_43 : decode cX8_lowest 43 = .ok (.lload_n 1, 1) := by decide +kernel
theorem dX8_lowest_44 : decode cX8_lowest 44 = .ok (.lconst 0, 1) := by decide +kernel
theorem dX8_lowest_45 : decode cX8_lowest 45 = .ok (.lcmp, 1) := by decide +kernel
theorem dX8_lowest_46 : decode cX8_lowest 46 = .ok (.ifCond .eq 7, 3) := by decide +kernel
theorem dX8_lowest_49 : decode cX8_lowest 49 = .ok (.lconst 1, 1) := by decide +kernel
theorem dX8_lowest_50 : decode cX8_lowest 50 = .ok (.goto 4, 3) := by decide +kernel
theorem dX8_lowest_53 : decode cX8_lowest 53 = .ok (.lconst 0, 1) := by decide +kernel
theorem dX8_lowest_54 : decode cX8_lowest 54 = .ok (.lreturn, 1) := by decide +kernel
theorem dX8_tape_0 : decode cX8_tape 0 = .ok (.iload_n 1, 1) := by decide +kernel
theorem dX8_tape_1 : decode cX8_tape 1 = .ok (.invokestatic 243, 3) := by decide +kernel
theorem dX8_tape_4 : decode cX8_tape 4 = .ok (.ifCond .ne 5, 3) := by decide +kernel
theorem dX8_tape_7 : decode cX8_tape 7 = .ok (.iconst (-1), 1) := by decide +kernel
theorem dX8_tape_8 : decode cX8_tape 8 = .ok (.ireturn, 1) := by decide +kernel
theorem dX8_tape_9 : decode cX8_tape 9 = .ok (.iload_n 2, 1) := by decide +kernel
theorem dX8_tape_10 : decode cX8_tape 10 = .ok (.iconst (-1), 1) := by decide +kernel
theorem dX8_tape_11 : decode cX8_tape 11 = .ok (.iconst 4, 1) := by decide +kernel
theorem dX8_tape_12 : decode cX8_tape 12 = .ok (.invokestatic 5, 3) := by decide +kernel
theorem dX8_tape_15 : decode cX8_tape 15 = .ok (.ifCond .eq 13, 3) := by decide +kernel
theorem dX8_tape_18 : decode cX8_tape 18 = .ok (.iload_n 2, 1) := by decide +kernel
theorem dX8_tape_19 : decode cX8_tape 19 = .ok (.ifCond .lt 12, 3) := by decide +kernel
theorem dX8_tape_22 : decode cX8_tape 22 = .ok (.iload_n 3, 1) := by decide +kernel
theorem dX8_tape_23 : decode cX8_tape 23 = .ok (.bipush 60, 2) := by decide +kernel
theorem dX8_tape_25 : decode cX8_tape 25 = .ok (.if_icmp .le 6, 3) := by decide +kernel
theorem dX8_tape_28 : decode cX8_tape 28 = .ok (.bipush (-2), 2) := by decide +kernel
theorem dX8_tape_30 : decode cX8_tape 30 = .ok (.ireturn, 1) := by decide +kernel
theorem dX8_tape_31 : decode cX8_tape 31 = .ok (.iload_n 2, 1) := by decide +kernel
theorem dX8_tape_32 : decode cX8_tape 32 = .ok (.ifCond .lt 10, 3) := by decide +kernel
theorem dX8_tape_35 : decode cX8_tape 35 = .ok (.iload_n 3, 1) := by decide +kernel
theorem dX8_tape_36 : decode cX8_tape 36 = .ok (.ifCond .ge 6, 3) := by decide +kernel
theorem dX8_tape_39 : decode cX8_tape 39 = .ok (.bipush (-14), 2) := by decide +kernel
theorem dX8_tape_41 : decode cX8_tape 41 = .ok (.ireturn, 1) := by decide +kernel
theorem dX8_tape_42 : decode cX8_tape 42 = .ok (.aload_n 0, 1) := by decide +kernel
theorem dX8_tape_43 : decode cX8_tape 43 = .ok (.getfield 68, 3) := by decide +kernel
theorem dX8_tape_46 : decode cX8_tape 46 = .ok (.iload_n 1, 1) := by decide +kernel
theorem dX8_tape_47 : decode cX8_tape 47 = .ok (.iload_n 2, 1) := by decide +kernel
theorem dX8_tape_48 : decode cX8_tape 48 = .ok (.iastore, 1) := by decide +kernel
theorem dX8_tape_49 : decode cX8_tape 49 = .ok (.aload_n 0, 1) := by decide +kernel
theorem dX8_tape_50 : decode cX8_tape 50 = .ok (.getfield 71, 3) := by decide +kernel
theorem dX8_tape_53 : decode cX8_tape 53 = .ok (.iload_n 1, 1) := by decide +kernel
theorem dX8_tape_54 : decode cX8_tape 54 = .ok (.iload_n 2, 1) := by decide +kernel
theorem dX8_tape_55 : decode cX8_tape 55 = .ok (.ifCond .ge 7, 3) := by decide +kernel
theorem dX8_tape_58 : decode cX8_tape 58 = .ok (.iconst (-1), 1) := by decide +kernel
theorem dX8_tape_59 : decode cX8_tape 59 = .ok (.goto 4, 3) := by decide +kernel
theorem dX8_tape_62 : decode cX8_tape 62 = .ok (.iload_n 3, 1) := by decide +kernel
theorem dX8_tape_63 : decode cX8_tape 63 = .ok (.iastore, 1) := by decide +kernel
theorem dX8_tape_64 : decode cX8_tape 64 = .ok (.iconst 0, 1) := by decide +kernel
theorem dX8_tape_65 : decode cX8_tape 65 = .ok (.istore 4, 2) := by decide +kernel
theorem dX8_tape_67 : decode cX8_tape 67 = .ok (.iload 4, 2) := by decide +kernel
theorem dX8_tape_69 : decode cX8_tape 69 = .ok (.bipush 60, 2) := by decide +kernel
theorem dX8_tape_71 : decode cX8_tape 71 = .ok (.if_icmp .ge 22, 3) := by decide +kernel
theorem dX8_tape_74 : decode cX8_tape 74 = .ok (.aload_n 0, 1) := by decide +kernel
theorem dX8_tape_75 : decode cX8_tape 75 = .ok (.getfield 74, 3) := by decide +kernel
theorem dX8_tape_78 : decode cX8_tape 78 = .ok (.bipush 60, 2) := by decide +kernel
theorem dX8_tape_80 : decode cX8_tape 80 = .ok (.iload_n 1, 1) := by decide +kernel
theorem dX8_tape_81 : decode cX8_tape 81 = .ok (.imul, 1) := by decide +kernel
theorem dX8_tape_82 : decode cX8_tape 82 = .ok (.iload 4, 2) := by decide +kernel
theorem dX8_tape_84 : decode cX8_tape 84 = .ok (.iadd, 1) := by decide +kernel
theorem dX8_tape_85 : decode cX8_tape 85 = .ok (.lconst 0, 1) := by decide +kernel
theorem dX8_tape_86 : decode cX8_tape 86 = .ok (.lastore, 1) := by decide +kernel
theorem dX8_tape_87 : decode cX8_tape 87 = .ok (.iinc 4 1, 3) := by decide +kernel
theorem dX8_tape_90 : decode cX8_tape 90 = .ok (.goto (-23), 3) := by decide +kernel
theorem dX8_tape_93 : decode cX8_tape 93 = .ok (.iconst 1, 1) := by decide +kernel
theorem dX8_tape_94 : decode cX8_tape 94 = .ok (.ireturn, 1) := by decide +kernel
theorem dX8_item_0 : decode cX8_item 0 = .ok (.iload_n 1, 1) := by decide +kernel
theorem dX8_item_1 : decode cX8_item 1 = .ok (.invokestatic 243, 3) := by decide +kernel
theorem dX8_item_4 : decode cX8_item 4 = .ok (.ifCond .ne 5, 3) := by decide +kernel
theorem dX8_item_7 : decode cX8_item 7 = .ok (.iconst (-1), 1) := by decide +kernel
theorem dX8_item_8 : decode cX8_item 8 = .ok (.ireturn, 1) := by decide +kernel
theorem dX8_item_9 : decode cX8_item 9 = .ok (.aload_n 0, 1) := by decide +kernel
theorem dX8_item_10 : decode cX8_item 10 = .ok (.getfield 71, 3) := by decide +kernel
theorem dX8_item_13 : decode cX8_item 13 = .ok (.iload_n 1, 1) := by decide +kernel
theorem dX8_item_14 : decode cX8_item 14 = .ok (.iaload, 1) := by decide +kernel
theorem dX8_item_15 : decode cX8_item 15 = .ok (.ifCond .ge 6, 3) := by decide +kernel
theorem dX8_item_18 : decode cX8_item 18 = .ok (.bipush (-11), 2) := by decide +kernel
theorem dX8_item_20 : decode cX8_item 20 = .ok (.ireturn, 1) := by decide +kernel
theorem dX8_item_21 : decode cX8_item 21 = .ok (.iload_n 2, 1) := by decide +kernel
theorem dX8_item_22 : decode cX8_item 22 = .ok (.iconst 0, 1) := by decide +kernel
theorem dX8_item_23 : decode cX8_item 23 = .ok (.aload_n 0, 1) := by decide +kernel
theorem dX8_item_24 : decode cX8_item 24 = .ok (.getfield 71, 3) := by decide +kernel
theorem dX8_item_27 : decode cX8_item 27 = .ok (.iload_n 1, 1) := by decide +kernel
theorem dX8_item_28 : decode cX8_item 28 = .ok (.iaload, 1) := by decide +kernel
theorem dX8_item_29 : decode cX8_item 29 = .ok (.iconst 1, 1) := by decide +kernel
theorem dX8_item_30 : decode cX8_item 30 = .ok (.isub, 1) := by decide +kernel
theorem dX8_item_31 : decode cX8_item 31 = .ok (.invokestatic 5, 3) := by decide +kernel
theorem dX8_item_34 : decode cX8_item 34 = .ok (.ifCond .ne 6, 3) := by decide +kernel
theorem dX8_item_37 : decode cX8_item 37 = .ok (.bipush (-13), 2) := by decide +kernel
theorem dX8_item_39 : decode cX8_item 39 = .ok (.ireturn, 1) := by decide +kernel
theorem dX8_item_40 : decode cX8_item 40 = .ok (.aload_n 0, 1) := by decide +kernel
theorem dX8_item_41 : decode cX8_item 41 = .ok (.getfield 74, 3) := by decide +kernel
theorem dX8_item_44 : decode cX8_item 44 = .ok (.bipush 60, 2) := by decide +kernel
theorem dX8_item_46 : decode cX8_item 46 = .ok (.iload_n 1, 1) := by decide +kernel
theorem dX8_item_47 : decode cX8_item 47 = .ok (.imul, 1) := by decide +kernel
theorem dX8_item_48 : decode cX8_item 48 = .ok (.iload_n 2, 1) := by decide +kernel
theorem dX8_item_49 : decode cX8_item 49 = .ok (.iadd, 1) := by decide +kernel
theorem dX8_item_50 : decode cX8_item 50 = .ok (.aload_n 0, 1) := by decide +kernel
theorem dX8_item_51 : decode cX8_item 51 = .ok (.getfield 68, 3) := by decide +kernel
theorem dX8_item_54 : decode cX8_item 54 = .ok (.iload_n 1, 1) := by decide +kernel
theorem dX8_item_55 : decode cX8_item 55 = .ok (.iaload, 1) := by decide +kernel
theorem dX8_item_56 : decode cX8_item 56 = .ok (.lload_n 3, 1) := by decide +kernel
theorem dX8_item_57 : decode cX8_item 57 = .ok (.invokestatic 267, 3) := by decide +kernel
theorem dX8_item_60 : decode cX8_item 60 = .ok (.lastore, 1) := by decide +kernel
theorem dX8_item_61 : decode cX8_item 61 = .ok (.iconst 1, 1) := by decide +kernel
theorem dX8_item_62 : decode cX8_item 62 = .ok (.ireturn, 1) := by decide +kernel
theorem dX8_peek_0 : decode cX8_peek 0 = .ok (.iload_n 1, 1) := by decide +kernel
theorem dX8_peek_1 : decode cX8_peek 1 = .ok (.invokestatic 243, 3) := by decide +kernel
theorem dX8_peek_4 : decode cX8_peek 4 = .ok (.ifCond .eq 33, 3) := by decide +kernel
theorem dX8_peek_7 : decode cX8_peek 7 = .ok (.iload_n 2, 1) := by decide +kernel
theorem dX8_peek_8 : decode cX8_peek 8 = .ok (.iconst 0, 1) := by decide +kernel
theorem dX8_peek_9 : decode cX8_peek 9 = .ok (.aload_n 0, 1) := by decide +kernel
theorem dX8_peek_10 : decode cX8_peek 10 = .ok (.getfield 71, 3) := by decide +kernel
theorem dX8_peek_13 : decode cX8_peek 13 = .ok (.iload_n 1, 1) := by decide +kernel
theorem dX8_peek_14 : decode cX8_peek 14 = .ok (.iaload, 1) := by decide +kernel
theorem dX8_peek_15 : decode cX8_peek 15 = .ok (.iconst 1, 1) := by decide +kernel
theorem dX8_peek_16 : decode cX8_peek 16 = .ok (.isub, 1) := by decide +kernel
theorem dX8_peek_17 : decode cX8_peek 17 = .ok (.invokestatic 5, 3) := by decide +kernel
theorem dX8_peek_20 : decode cX8_peek 20 = .ok (.ifCond .eq 17, 3) := by decide +kernel
theorem dX8_peek_23 : decode cX8_peek 23 = .ok (.aload_n 0, 1) := by decide +kernel
theorem dX8_peek_24 : decode cX8_peek 24 = .ok (.getfield 74, 3) := by decide +kernel
theorem dX8_peek_27 : decode cX8_peek 27 = .ok (.bipush 60, 2) := by decide +kernel
theorem dX8_peek_29 : decode cX8_peek 29 = .ok (.iload_n 1, 1) := by decide +kernel
theorem dX8_peek_30 : decode cX8_peek 30 = .ok (.imul, 1) := by decide +kernel
theorem dX8_peek_31 : decode cX8_peek 31 = .ok (.iload_n 2, 1) := by decide +kernel
theorem dX8_peek_32 : decode cX8_peek 32 = .ok (.iadd, 1) := by decide +kernel
theorem dX8_peek_33 : decode cX8_peek 33 = .ok (.laload, 1) := by decide +kernel
theorem dX8_peek_34 : decode cX8_peek 34 = .ok (.goto 6, 3) := by decide +kernel
theorem dX8_peek_37 : decode cX8_peek 37 = .ok (.ldc2_w 216, 3) := by decide +kernel
theorem dX8_peek_40 : decode cX8_peek 40 = .ok (.lreturn, 1) := by decide +kernel
theorem dX8_shift_0 : decode cX8_shift 0 = .ok (.iload_n 1, 1) := by decide +kernel
theorem dX8_shift_1 : decode cX8_shift 1 = .ok (.invokestatic 243, 3) := by decide +kernel
theorem dX8_shift_4 : decode cX8_shift 4 = .ok (.ifCond .eq 10, 3) := by decide +kernel
theorem dX8_shift_7 : decode cX8_shift 7 = .ok (.iload_n 3, 1) := by decide +kernel
theorem dX8_shift_8 : decode cX8_shift 8 = .ok (.invokestatic 243, 3) := by decide +kernel
theorem dX8_shift_11 : decode cX8_shift 11 = .ok (.ifCond .ne 5, 3) := by decide +kernel
theorem dX8_shift_14 : decode cX8_shift 14 = .ok (.iconst (-1), 1) := by decide +kernel
theorem dX8_shift_15 : decode cX8_shift 15 = .ok (.ireturn, 1) := by decide +kernel
theorem dX8_shift_16 : decode cX8_shift 16 = .ok (.aload_n 0, 1) := by decide +kernel
theorem dX8_shift_17 : decode cX8_shift 17 = .ok (.getfield 71, 3) := by decide +kernel
theorem dX8_shift_20 : decode cX8_shift 20 = .ok (.iload_n 1, 1) := by decide +kernel
theorem dX8_shift_21 : decode cX8_shift 21 = .ok (.iaload, 1) := by decide +kernel
theorem dX8_shift_22 : decode cX8_shift 22 = .ok (.ifCond .lt 12, 3) := by decide +kernel
theorem dX8_shift_25 : decode cX8_shift 25 = .ok (.aload_n 0, 1) := by decide +kernel
theorem dX8_shift_26 : decode cX8_shift 26 = .ok (.getfield 71, 3) := by decide +kernel
theorem dX8_shift_29 : decode cX8_shift 29 = .ok (.iload_n 3, 1) := by decide +kernel
theorem dX8_shift_30 : decode cX8_shift 30 = .ok (.iaload, 1) := by decide +kernel
theorem dX8_shift_31 : decode cX8_shift 31 = .ok (.ifCond .ge 6, 3) := by decide +kernel
theorem dX8_shift_34 : decode cX8_shift 34 = .ok (.bipush (-11), 2) := by decide +kernel
theorem dX8_shift_36 : decode cX8_shift 36 = .ok (.ireturn, 1) := by decide +kernel
theorem dX8_shift_37 : decode cX8_shift 37 = .ok (.aload_n 0, 1) := by decide +kernel
theorem dX8_shift_38 : decode cX8_shift 38 = .ok (.getfield 68, 3) := by decide +kernel
theorem dX8_shift_41 : decode cX8_shift 41 = .ok (.iload_n 1, 1) := by decide +kernel
theorem dX8_shift_42 : decode cX8_shift 42 = .ok (.iaload, 1) := by decide +kernel
theorem dX8_shift_43 : decode cX8_shift 43 = .ok (.aload_n 0, 1) := by decide +kernel
theorem dX8_shift_44 : decode cX8_shift 44 = .ok (.getfield 68, 3) := by decide +kernel
theorem dX8_shift_47 : decode cX8_shift 47 = .ok (.iload_n 3, 1) := by decide +kernel
theorem dX8_shift_48 : decode cX8_shift 48 = .ok (.iaload, 1) := by decide +kernel
theorem dX8_shift_49 : decode cX8_shift 49 = .ok (.if_icmp .eq 6, 3) := by decide +kernel
theorem dX8_shift_52 : decode cX8_shift 52 = .ok (.bipush (-12), 2) := by decide +kernel
theorem dX8_shift_54 : decode cX8_shift 54 = .ok (.ireturn, 1) := by decide +kernel
theorem dX8_shift_55 : decode cX8_shift 55 = .ok (.iload 5, 2) := by decide +kernel
theorem dX8_shift_57 : decode cX8_shift 57 = .ok (.ifCond .lt 47, 3) := by decide +kernel
theorem dX8_shift_60 : decode cX8_shift 60 = .ok (.iload_n 2, 1) := by decide +kernel
theorem dX8_shift_61 : decode cX8_shift 61 = .ok (.ifCond .lt 43, 3) := by decide +kernel
theorem dX8_shift_64 : decode cX8_shift 64 = .ok (.iload 4, 2) := by decide +kernel
theorem dX8_shift_66 : decode cX8_shift 66 = .ok (.ifCond .lt 38, 3) := by decide +kernel
theorem dX8_shift_69 : decode cX8_shift 69 = .ok (.iload_n 2, 1) := by decide +kernel
theorem dX8_shift_70 : decode cX8_shift 70 = .ok (.i2l, 1) := by decide +kernel
theorem dX8_shift_71 : decode cX8_shift 71 = .ok (.iload 5, 2) := by decide +kernel
theorem dX8_shift_73 : decode cX8_shift 73 = .ok (.i2l, 1) := by decide +kernel
theorem dX8_shift_74 : decode cX8_shift 74 = .ok (.ladd, 1) := by decide +kernel
theorem dX8_shift_75 : decode cX8_shift 75 = .ok (.aload_n 0, 1) := by decide +kernel
theorem dX8_shift_76 : decode cX8_shift 76 = .ok (.getfield 71, 3) := by decide +kernel
theorem dX8_shift_79 : decode cX8_shift 79 = .ok (.iload_n 1, 1) := by decide +kernel
theorem dX8_shift_80 : decode cX8_shift 80 = .ok (.iaload, 1) := by decide +kernel
theorem dX8_shift_81 : decode cX8_shift 81 = .ok (.i2l, 1) := by decide +kernel
theorem dX8_shift_82 : decode cX8_shift 82 = .ok (.lcmp, 1) := by decide +kernel
theorem dX8_shift_83 : decode cX8_shift 83 = .ok (.ifCond .gt 21, 3) := by decide +kernel
theorem dX8_shift_86 : decode cX8_shift 86 = .ok (.iload 4, 2) := by decide +kernel
theorem dX8_shift_88 : decode cX8_shift 88 = .ok (.i2l, 1) := by decide +kernel
theorem dX8_shift_89 : decode cX8_shift 89 = .ok (.iload 5, 2) := by decide +kernel
theorem dX8_shift_91 : decode cX8_shift 91 = .ok (.i2l, 1) := by decide +kernel
theorem dX8_shift_92 : decode cX8_shift 92 = .ok (.ladd, 1) := by decide +kernel
theorem dX8_shift_93 : decode cX8_shift 93 = .ok (.aload_n 0, 1) := by decide +kernel
theorem dX8_shift_94 : decode cX8_shift 94 = .ok (.getfield 71, 3) := by decide +kernel
theorem dX8_shift_97 : decode cX8_shift 97 = .ok (.iload_n 3, 1) := by decide +kernel
theorem dX8_shift_98 : decode cX8_shift 98 = .ok (.iaload, 1) := by decide +kernel
theorem dX8_shift_99 : decode cX8_shift 99 = .ok (.i2l, 1) := by decide +kernel
theorem dX8_shift_100 : decode cX8_shift 100 = .ok (.lcmp, 1) := by decide +kernel
theorem dX8_shift_101 : decode cX8_shift 101 = .ok (.ifCond .le 6, 3) := by decide +kernel
theorem dX8_shift_104 : decode cX8_shift 104 = .ok (.bipush (-13), 2) := by decide +kernel
theorem dX8_shift_106 : decode cX8_shift 106 = .ok (.ireturn, 1) := by decide +kernel
theorem dX8_shift_107 : decode cX8_shift 107 = .ok (.iconst 0, 1) := by decide +kernel
theorem dX8_shift_108 : decode cX8_shift 108 = .ok (.istore 6, 2) := by decide +kernel
theorem dX8_shift_110 : decode cX8_shift 110 = .ok (.iload 6, 2) := by decide +kernel
theorem dX8_shift_112 : decode cX8_shift 112 = .ok (.iload 5, 2) := by decide +kernel
theorem dX8_shift_114 : decode cX8_shift 114 = .ok (.if_icmp .ge 30, 3) := by decide +kernel
theorem dX8_shift_117 : decode cX8_shift 117 = .ok (.aload_n 0, 1) := by decide +kernel
theorem dX8_shift_118 : decode cX8_shift 118 = .ok (.getfield 78, 3) := by decide +kernel
theorem dX8_shift_121 : decode cX8_shift 121 = .ok (.iload 6, 2) := by decide +kernel
theorem dX8_shift_123 : decode cX8_shift 123 = .ok (.aload_n 0, 1) := by decide +kernel
theorem dX8_shift_124 : decode cX8_shift 124 = .ok (.getfield 74, 3) := by decide +kernel
theorem dX8_shift_127 : decode cX8_shift 127 = .ok (.bipush 60, 2) := by decide +kernel
theorem dX8_shift_129 : decode cX8_shift 129 = .ok (.iload_n 1, 1) := by decide +kernel
theorem dX8_shift_130 : decode cX8_shift 130 = .ok (.imul, 1) := by decide +kernel
theorem dX8_shift_131 : decode cX8_shift 131 = .ok (.iload_n 2, 1) := by decide +kernel
theorem dX8_shift_132 : decode cX8_shift 132 = .ok (.iadd, 1) := by decide +kernel
theorem dX8_shift_133 : decode cX8_shift 133 = .ok (.iload 6, 2) := by decide +kernel
theorem dX8_shift_135 : decode cX8_shift 135 = .ok (.iadd, 1) := by decide +kernel
theorem dX8_shift_136 : decode cX8_shift 136 = .ok (.laload, 1) := by decide +kernel
theorem dX8_shift_137 : decode cX8_shift 137 = .ok (.lastore, 1) := by decide +kernel
theorem dX8_shift_138 : decode cX8_shift 138 = .ok (.iinc 6 1, 3) := by decide +kernel
theorem dX8_shift_141 : decode cX8_shift 141 = .ok (.goto (-31), 3) := by decide +kernel
theorem dX8_shift_144 : decode cX8_shift 144 = .ok (.iconst 0, 1) := by decide +kernel
theorem dX8_shift_145 : decode cX8_shift 145 = .ok (.istore 6, 2) := by decide +kernel
theorem dX8_shift_147 : decode cX8_shift 147 = .ok (.iload 6, 2) := by decide +kernel
theorem dX8_shift_149 : decode cX8_shift 149 = .ok (.iload 5, 2) := by decide +kernel
theorem dX8_shift_151 : decode cX8_shift 151 = .ok (.if_icmp .ge 31, 3) := by decide +kernel
theorem dX8_shift_154 : decode cX8_shift 154 = .ok (.aload_n 0, 1) := by decide +kernel
theorem dX8_shift_155 : decode cX8_shift 155 = .ok (.getfield 74, 3) := by decide +kernel
theorem dX8_shift_158 : decode cX8_shift 158 = .ok (.bipush 60, 2) := by decide +kernel
theorem dX8_shift_160 : decode cX8_shift 160 = .ok (.iload_n 3, 1) := by decide +kernel
theorem dX8_shift_161 : decode cX8_shift 161 = .ok (.imul, 1) := by decide +kernel
theorem dX8_shift_162 : decode cX8_shift 162 = .ok (.iload 4, 2) := by decide +kernel
theorem dX8_shift_164 : decode cX8_shift 164 = .ok (.iadd, 1) := by decide +kernel
theorem dX8_shift_165 : decode cX8_shift 165 = .ok (.iload 6, 2) := by decide +kernel
theorem dX8_shift_167 : decode cX8_shift 167 = .ok (.iadd, 1) := by decide +kernel
theorem dX8_shift_168 : decode cX8_shift 168 = .ok (.aload_n 0, 1) := by decide +kernel
theorem dX8_shift_169 : decode cX8_shift 169 = .ok (.getfield 78, 3) := by decide +kernel
theorem dX8_shift_172 : decode cX8_shift 172 = .ok (.iload 6, 2) := by decide +kernel
theorem dX8_shift_174 : decode cX8_shift 174 = .ok (.laload, 1) := by decide +kernel
theorem dX8_shift_175 : decode cX8_shift 175 = .ok (.lastore, 1) := by decide +kernel
theorem dX8_shift_176 : decode cX8_shift 176 = .ok (.iinc 6 1, 3) := by decide +kernel
theorem dX8_shift_179 : decode cX8_shift 179 = .ok (.goto (-32), 3) := by decide +kernel
theorem dX8_shift_182 : decode cX8_shift 182 = .ok (.iload 5, 2) := by decide +kernel
theorem dX8_shift_184 : decode cX8_shift 184 = .ok (.ireturn, 1) := by decide +kernel
