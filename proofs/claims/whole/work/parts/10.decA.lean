theorem dX0_ofFloat_0 : decode cX0_ofFloat 0 = .ok (.fload_n 0, 1) := by decide +kernel
theorem dX0_ofFloat_1 : decode cX0_ofFloat 1 = .ok (.fconst 0, 1) := by decide +kernel
theorem dX0_ofFloat_2 : decode cX0_ofFloat 2 = .ok (.fcmp .g, 1) := by decide +kernel
theorem dX0_ofFloat_3 : decode cX0_ofFloat 3 = .ok (.ifCond .gt 5, 3) := by decide +kernel
theorem dX0_ofFloat_6 : decode cX0_ofFloat 6 = .ok (.iconst 0, 1) := by decide +kernel
theorem dX0_ofFloat_7 : decode cX0_ofFloat 7 = .ok (.ireturn, 1) := by decide +kernel
theorem dX0_ofFloat_8 : decode cX0_ofFloat 8 = .ok (.fload_n 0, 1) := by decide +kernel
theorem dX0_ofFloat_9 : decode cX0_ofFloat 9 = .ok (.f2d, 1) := by decide +kernel
theorem dX0_ofFloat_10 : decode cX0_ofFloat 10 = .ok (.invokestatic 7, 3) := by decide +kernel
theorem dX0_ofFloat_13 : decode cX0_ofFloat 13 = .ok (.istore_n 1, 1) := by decide +kernel
theorem dX0_ofFloat_14 : decode cX0_ofFloat 14 = .ok (.iload_n 1, 1) := by decide +kernel
theorem dX0_ofFloat_15 : decode cX0_ofFloat 15 = .ok (.bipush 127, 2) := by decide +kernel
theorem dX0_ofFloat_17 : decode cX0_ofFloat 17 = .ok (.iadd, 1) := by decide +kernel
theorem dX0_ofFloat_18 : decode cX0_ofFloat 18 = .ok (.bipush 23, 2) := by decide +kernel
theorem dX0_ofFloat_20 : decode cX0_ofFloat 20 = .ok (.ishl, 1) := by decide +kernel
theorem dX0_ofFloat_21 : decode cX0_ofFloat 21 = .ok (.fload_n 0, 1) := by decide +kernel
theorem dX0_ofFloat_22 : decode cX0_ofFloat 22 = .ok (.f2d, 1) := by decide +kernel
theorem dX0_ofFloat_23 : decode cX0_ofFloat 23 = .ok (.iload_n 1, 1) := by decide +kernel
theorem dX0_ofFloat_24 : decode cX0_ofFloat 24 = .ok (.invokestatic 13, 3) := by decide +kernel
theorem dX0_ofFloat_27 : decode cX0_ofFloat 27 = .ok (.ldc2_w 17, 3) := by decide +kernel
theorem dX0_ofFloat_30 : decode cX0_ofFloat 30 = .ok (.dmul, 1) := by decide +kernel
theorem dX0_ofFloat_31 : decode cX0_ofFloat 31 = .ok (.d2i, 1) := by decide +kernel
theorem dX0_ofFloat_32 : decode cX0_ofFloat 32 = .ok (.iadd, 1) := by decide +kernel
theorem dX0_ofFloat_33 : decode cX0_ofFloat 33 = .ok (.ireturn, 1) := by decide +kernel
theorem dX0_ofDouble_0 : decode cX0_ofDouble 0 = .ok (.dload_n 0, 1) := by decide +kernel
theorem dX0_ofDouble_1 : decode cX0_ofDouble 1 = .ok (.dconst 0, 1) := by decide +kernel
theorem dX0_ofDouble_2 : decode cX0_ofDouble 2 = .ok (.dcmp .g, 1) := by decide +kernel
theorem dX0_ofDouble_3 : decode cX0_ofDouble 3 = .ok (.ifCond .gt 5, 3) := by decide +kernel
theorem dX0_ofDouble_6 : decode cX0_ofDouble 6 = .ok (.lconst 0, 1) := by decide +kernel
theorem dX0_ofDouble_7 : decode cX0_ofDouble 7 = .ok (.lreturn, 1) := by decide +kernel
theorem dX0_ofDouble_8 : decode cX0_ofDouble 8 = .ok (.dload_n 0, 1) := by decide +kernel
theorem dX0_ofDouble_9 : decode cX0_ofDouble 9 = .ok (.invokestatic 7, 3) := by decide +kernel
theorem dX0_ofDouble_12 : decode cX0_ofDouble 12 = .ok (.istore_n 2, 1) := by decide +kernel
theorem dX0_ofDouble_13 : decode cX0_ofDouble 13 = .ok (.iload_n 2, 1) := by decide +kernel
theorem dX0_ofDouble_14 : decode cX0_ofDouble 14 = .ok (.sipush 1023, 3) := by decide +kernel
theorem dX0_ofDouble_17 : decode cX0_ofDouble 17 = .ok (.iadd, 1) := by decide +kernel
theorem dX0_ofDouble_18 : decode cX0_ofDouble 18 = .ok (.i2l, 1) := by decide +kernel
theorem dX0_ofDouble_19 : decode cX0_ofDouble 19 = .ok (.bipush 52, 2) := by decide +kernel
theorem dX0_ofDouble_21 : decode cX0_ofDouble 21 = .ok (.lshl, 1) := by decide +kernel
theorem dX0_ofDouble_22 : decode cX0_ofDouble 22 = .ok (.dload_n 0, 1) := by decide +kernel
theorem dX0_ofDouble_23 : decode cX0_ofDouble 23 = .ok (.iload_n 2, 1) := by decide +kernel
theorem dX0_ofDouble_24 : decode cX0_ofDouble 24 = .ok (.invokestatic 13, 3) := by decide +kernel
theorem dX0_ofDouble_27 : decode cX0_ofDouble 27 = .ok (.ldc2_w 19, 3) := by decide +kernel
theorem dX0_ofDouble_30 : decode cX0_ofDouble 30 = .ok (.dmul, 1) := by decide +kernel
theorem dX0_ofDouble_31 : decode cX0_ofDouble 31 = .ok (.d2l, 1) := by decide +kernel
theorem dX0_ofDouble_32 : decode cX0_ofDouble 32 = .ok (.ladd, 1) := by decide +kernel
theorem dX0_ofDouble_33 : decode cX0_ofDouble 33 = .ok (.lreturn, 1) := by decide +kernel
theorem dX0_exponentOf_0 : decode cX0_exponentOf 0 = .ok (.dload_n 0, 1) := by decide +kernel
theorem dX0_exponentOf_1 : decode cX0_exponentOf 1 = .ok (.dstore_n 2, 1) := by decide +kernel
theorem dX0_exponentOf_2 : decode cX0_exponentOf 2 = .ok (.iconst 0, 1) := by decide +kernel
theorem dX0_exponentOf_3 : decode cX0_exponentOf 3 = .ok (.istore 4, 2) := by decide +kernel
theorem dX0_exponentOf_5 : decode cX0_exponentOf 5 = .ok (.dload_n 2, 1) := by decide +kernel
theorem dX0_exponentOf_6 : decode cX0_exponentOf 6 = .ok (.dconst 1, 1) := by decide +kernel
theorem dX0_exponentOf_7 : decode cX0_exponentOf 7 = .ok (.dcmp .g, 1) := by decide +kernel
theorem dX0_exponentOf_8 : decode cX0_exponentOf 8 = .ok (.ifCond .ge 22, 3) := by decide +kernel
theorem dX0_exponentOf_11 : decode cX0_exponentOf 11 = .ok (.iload 4, 2) := by decide +kernel
theorem dX0_exponentOf_13 : decode cX0_exponentOf 13 = .ok (.bipush (-100), 2) := by decide +kernel
theorem dX0_exponentOf_15 : decode cX0_exponentOf 15 = .ok (.if_icmp .le 15, 3) := by decide +kernel
theorem dX0_exponentOf_18 : decode cX0_exponentOf 18 = .ok (.dload_n 2, 1) := by decide +kernel
theorem dX0_exponentOf_19 : decode cX0_exponentOf 19 = .ok (.ldc2_w 21, 3) := by decide +kernel
theorem dX0_exponentOf_22 : decode cX0_exponentOf 22 = .ok (.dmul, 1) := by decide +kernel
theorem dX0_exponentOf_23 : decode cX0_exponentOf 23 = .ok (.dstore_n 2, 1) := by decide +kernel
theorem dX0_exponentOf_24 : decode cX0_exponentOf 24 = .ok (.iinc 4 (-1), 3) := by decide +kernel
theorem dX0_exponentOf_27 : decode cX0_exponentOf 27 = .ok (.goto (-22), 3) := by decide +kernel
theorem dX0_exponentOf_30 : decode cX0_exponentOf 30 = .ok (.iload 4, 2) := by decide +kernel
theorem dX0_exponentOf_32 : decode cX0_exponentOf 32 = .ok (.ireturn, 1) := by decide +kernel
theorem dX0_fractionOf_0 : decode cX0_fractionOf 0 = .ok (.dload_n 0, 1) := by decide +kernel
theorem dX0_fractionOf_1 : decode cX0_fractionOf 1 = .ok (.dstore_n 3, 1) := by decide +kernel
theorem dX0_fractionOf_2 : decode cX0_fractionOf 2 = .ok (.iload_n 2, 1) := by decide +kernel
theorem dX0_fractionOf_3 : decode cX0_fractionOf 3 = .ok (.istore 5, 2) := by decide +kernel
theorem dX0_fractionOf_5 : decode cX0_fractionOf 5 = .ok (.iload 5, 2) := by decide +kernel
theorem dX0_fractionOf_7 : decode cX0_fractionOf 7 = .ok (.ifCond .ge 15, 3) := by decide +kernel
theorem dX0_fractionOf_10 : decode cX0_fractionOf 10 = .ok (.dload_n 3, 1) := by decide +kernel
theorem dX0_fractionOf_11 : decode cX0_fractionOf 11 = .ok (.ldc2_w 21, 3) := by decide +kernel
theorem dX0_fractionOf_14 : decode cX0_fractionOf 14 = .ok (.dmul, 1) := by decide +kernel
theorem dX0_fractionOf_15 : decode cX0_fractionOf 15 = .ok (.dstore_n 3, 1) := by decide +kernel
theorem dX0_fractionOf_16 : decode cX0_fractionOf 16 = .ok (.iinc 5 1, 3) := by decide +kernel
theorem dX0_fractionOf_19 : decode cX0_fractionOf 19 = .ok (.goto (-14), 3) := by decide +kernel
theorem dX0_fractionOf_22 : decode cX0_fractionOf 22 = .ok (.dload_n 3, 1) := by decide +kernel
theorem dX0_fractionOf_23 : decode cX0_fractionOf 23 = .ok (.dconst 1, 1) := by decide +kernel
theorem dX0_fractionOf_24 : decode cX0_fractionOf 24 = .ok (.dsub, 1) := by decide +kernel
theorem dX0_fractionOf_25 : decode cX0_fractionOf 25 = .ok (.dreturn, 1) := by decide +kernel
theorem dX1_cornerBy_0 : decode cX1_cornerBy 0 = .ok (.iload_n 0, 1) := by decide +kernel
theorem dX1_cornerBy_1 : decode cX1_cornerBy 1 = .ok (.iconst 3, 1) := by decide +kernel
theorem dX1_cornerBy_2 : decode cX1_cornerBy 2 = .ok (.ishr, 1) := by decide +kernel
theorem dX1_cornerBy_3 : decode cX1_cornerBy 3 = .ok (.iconst 3, 1) := by decide +kernel
theorem dX1_cornerBy_4 : decode cX1_cornerBy 4 = .ok (.imul, 1) := by decide +kernel
theorem dX1_cornerBy_5 : decode cX1_cornerBy 5 = .ok (.istore_n 2, 1) := by decide +kernel
theorem dX1_cornerBy_6 : decode cX1_cornerBy 6 = .ok (.iload_n 2, 1) := by decide +kernel
theorem dX1_cornerBy_7 : decode cX1_cornerBy 7 = .ok (.ifCond .lt 13, 3) := by decide +kernel
theorem dX1_cornerBy_10 : decode cX1_cornerBy 10 = .ok (.iload_n 2, 1) := by decide +kernel
theorem dX1_cornerBy_11 : decode cX1_cornerBy 11 = .ok (.iconst 2, 1) := by decide +kernel
theorem dX1_cornerBy_12 : decode cX1_cornerBy 12 = .ok (.iadd, 1) := by decide +kernel
theorem dX1_cornerBy_13 : decode cX1_cornerBy 13 = .ok (.getstatic 9, 3) := by decide +kernel
theorem dX1_cornerBy_16 : decode cX1_cornerBy 16 = .ok (.arraylength, 1) := by decide +kernel
theorem dX1_cornerBy_17 : decode cX1_cornerBy 17 = .ok (.if_icmp .lt 5, 3) := by decide +kernel
theorem dX1_cornerBy_20 : decode cX1_cornerBy 20 = .ok (.iconst (-1), 1) := by decide +kernel
theorem dX1_cornerBy_21 : decode cX1_cornerBy 21 = .ok (.ireturn, 1) := by decide +kernel
theorem dX1_cornerBy_22 : decode cX1_cornerBy 22 = .ok (.iload_n 1, 1) := by decide +kernel
theorem dX1_cornerBy_23 : decode cX1_cornerBy 23 = .ok (.getstatic 9, 3) := by decide +kernel
theorem dX1_cornerBy_26 : decode cX1_cornerBy 26 = .ok (.iload_n 2, 1) := by decide +kernel
theorem dX1_cornerBy_27 : decode cX1_cornerBy 27 = .ok (.iaload, 1) := by decide +kernel
theorem dX1_cornerBy_28 : decode cX1_cornerBy 28 = .ok (.ishr, 1) := by decide +kernel
theorem dX1_cornerBy_29 : decode cX1_cornerBy 29 = .ok (.iconst 1, 1) := by decide +kernel
theorem dX1_cornerBy_30 : decode cX1_cornerBy 30 = .ok (.iand, 1) := by decide +kernel
theorem dX1_cornerBy_31 : decode cX1_cornerBy 31 = .ok (.istore_n 3, 1) := by decide +kernel
theorem dX1_cornerBy_32 : decode cX1_cornerBy 32 = .ok (.iload_n 1, 1) := by decide +kernel
theorem dX1_cornerBy_33 : decode cX1_cornerBy 33 = .ok (.getstatic 9, 3) := by decide +kernel
theorem dX1_cornerBy_36 : decode cX1_cornerBy 36 = .ok (.iload_n 2, 1) := by decide +kernel
theorem dX1_cornerBy_37 : decode cX1_cornerBy 37 = .ok (.iconst 1, 1) := by decide +kernel
theorem dX1_cornerBy_38 : decode cX1_cornerBy 38 = .ok (.iadd, 1) := by decide +kernel
theorem dX1_cornerBy_39 : decode cX1_cornerBy 39 = .ok (.iaload, 1) := by decide +kernel
theorem dX1_cornerBy_40 : decode cX1_cornerBy 40 = .ok (.ishr, 1) := by decide +kernel
theorem dX1_cornerBy_41 : decode cX1_cornerBy 41 = .ok (.iconst 1, 1) := by decide +kernel
theorem dX1_cornerBy_42 : decode cX1_cornerBy 42 = .ok (.iand, 1) := by decide +kernel
theorem dX1_cornerBy_43 : decode cX1_cornerBy 43 = .ok (.istore 4, 2) := by decide +kernel
theorem dX1_cornerBy_45 : decode cX1_cornerBy 45 = .ok (.iload_n 1, 1) := by decide +kernel
theorem dX1_cornerBy_46 : decode cX1_cornerBy 46 = .ok (.getstatic 9, 3) := by decide +kernel
theorem dX1_cornerBy_49 : decode cX1_cornerBy 49 = .ok (.iload_n 2, 1) := by decide +kernel
theorem dX1_cornerBy_50 : decode cX1_cornerBy 50 = .ok (.iconst 2, 1) := by decide +kernel
theorem dX1_cornerBy_51 : decode cX1_cornerBy 51 = .ok (.iadd, 1) := by decide +kernel
theorem dX1_cornerBy_52 : decode cX1_cornerBy 52 = .ok (.iaload, 1) := by decide +kernel
theorem dX1_cornerBy_53 : decode cX1_cornerBy 53 = .ok (.ishr, 1) := by decide +kernel
theorem dX1_cornerBy_54 : decode cX1_cornerBy 54 = .ok (.iconst 1, 1) := by decide +kernel
theorem dX1_cornerBy_55 : decode cX1_cornerBy 55 = .ok (.iand, 1) := by decide +kernel
theorem dX1_cornerBy_56 : decode cX1_cornerBy 56 = .ok (.istore 5, 2) := by decide +kernel
theorem dX1_cornerBy_58 : decode cX1_cornerBy 58 = .ok (.iload_n 3, 1) := by decide +kernel
theorem dX1_cornerBy_59 : decode cX1_cornerBy 59 = .ok (.iload 4, 2) := by decide +kernel
theorem dX1_cornerBy_61 : decode cX1_cornerBy 61 = .ok (.iconst 1, 1) := by decide +kernel
theorem dX1_cornerBy_62 : decode cX1_cornerBy 62 = .ok (.ishl, 1) := by decide +kernel
theorem dX1_cornerBy_63 : decode cX1_cornerBy 63 = .ok (.ior, 1) := by decide +kernel
theorem dX1_cornerBy_64 : decode cX1_cornerBy 64 = .ok (.iload 5, 2) := by decide +kernel
theorem dX1_cornerBy_66 : decode cX1_cornerBy 66 = .ok (.iconst 2, 1) := by decide +kernel
theorem dX1_cornerBy_67 : decode cX1_cornerBy 67 = .ok (.ishl, 1) := by decide +kernel
theorem dX1_cornerBy_68 : decode cX1_cornerBy 68 = .ok (.ior, 1) := by decide +kernel
theorem dX1_cornerBy_69 : decode cX1_cornerBy 69 = .ok (.iload_n 0, 1) := by decide +kernel
theorem dX1_cornerBy_70 : decode cX1_cornerBy 70 = .ok (.bipush 7, 2) := by decide +kernel
theorem dX1_cornerBy_72 : decode cX1_cornerBy 72 = .ok (.iand, 1) := by decide +kernel
theorem dX1_cornerBy_73 : decode cX1_cornerBy 73 = .ok (.ixor, 1) := by decide +kernel
theorem dX1_cornerBy_74 : decode cX1_cornerBy 74 = .ok (.ireturn, 1) := by decide +kernel
theorem dX1_imageBy_0 : decode cX1_imageBy 0 = .ok (.iconst 0, 1) := by decide +kernel
theorem dX1_imageBy_1 : decode cX1_imageBy 1 = .ok (.istore_n 2, 1) := by decide +kernel
theorem dX1_imageBy_2 : decode cX1_imageBy 2 = .ok (.iconst 0, 1) := by decide +kernel
theorem dX1_imageBy_3 : decode cX1_imageBy 3 = .ok (.istore_n 3, 1) := by decide +kernel
theorem dX1_imageBy_4 : decode cX1_imageBy 4 = .ok (.iload_n 3, 1) := by decide +kernel
theorem dX1_imageBy_5 : decode cX1_imageBy 5 = .ok (.bipush 8, 2) := by decide +kernel
theorem dX1_imageBy_7 : decode cX1_imageBy 7 = .ok (.if_icmp .ge 28, 3) := by decide +kernel
theorem dX1_imageBy_10 : decode cX1_imageBy 10 = .ok (.iload_n 1, 1) := by decide +kernel
theorem dX1_imageBy_11 : decode cX1_imageBy 11 = .ok (.iload_n 3, 1) := by decide +kernel
theorem dX1_imageBy_12 : decode cX1_imageBy 12 = .ok (.invokestatic 15, 3) := by decide +kernel
theorem dX1_imageBy_15 : decode cX1_imageBy 15 = .ok (.iconst 1, 1) := by decide +kernel
theorem dX1_imageBy_16 : decode cX1_imageBy 16 = .ok (.if_icmp .ne 13, 3) := by decide +kernel
theorem dX1_imageBy_19 : decode cX1_imageBy 19 = .ok (.iload_n 2, 1) := by decide +kernel
theorem dX1_imageBy_20 : decode cX1_imageBy 20 = .ok (.iconst 1, 1) := by decide +kernel
theorem dX1_imageBy_21 : decode cX1_imageBy 21 = .ok (.iload_n 0, 1) := by decide +kernel
theorem dX1_imageBy_22 : decode cX1_imageBy 22 = .ok (.iload_n 3, 1) := by decide +kernel
theorem dX1_imageBy_23 : decode cX1_imageBy 23 = .ok (.invokestatic 19, 3) := by decide +kernel
theorem dX1_imageBy_26 : decode cX1_imageBy 26 = .ok (.ishl, 1) := by decide +kernel
theorem dX1_imageBy_27 : decode cX1_imageBy 27 = .ok (.ior, 1) := by decide +kernel
theorem dX1_imageBy_28 : decode cX1_imageBy 28 = .ok (.istore_n 2, 1) := by decide +kernel
theorem dX1_imageBy_29 : decode cX1_imageBy 29 = .ok (.iinc 3 1, 3) := by decide +kernel
theorem dX1_imageBy_32 : decode cX1_imageBy 32 = .ok (.goto (-28), 3) := by decide +kernel
theorem dX1_imageBy_35 : decode cX1_imageBy 35 = .ok (.iload_n 2, 1) := by decide +kernel
theorem dX1_imageBy_36 : decode cX1_imageBy 36 = .ok (.ireturn, 1) := by decide +kernel
theorem dX1_formOf_0 : decode cX1_formOf 0 = .ok (.iload_n 0, 1) := by decide +kernel
theorem dX1_formOf_1 : decode cX1_formOf 1 = .ok (.istore_n 1, 1) := by decide +kernel
theorem dX1_formOf_2 : decode cX1_formOf 2 = .ok (.iconst 0, 1) := by decide +kernel
theorem dX1_formOf_3 : decode cX1_formOf 3 = .ok (.istore_n 2, 1) := by decide +kernel
theorem dX1_formOf_4 : decode cX1_formOf 4 = .ok (.iload_n 2, 1) := by decide +kernel
theorem dX1_formOf_5 : decode cX1_formOf 5 = .ok (.bipush 48, 2) := by decide +kernel
theorem dX1_formOf_7 : decode cX1_formOf 7 = .ok (.if_icmp .ge 19, 3) := by decide +kernel
theorem dX1_formOf_10 : decode cX1_formOf 10 = .ok (.iload_n 1, 1) := by decide +kernel
theorem dX1_formOf_11 : decode cX1_formOf 11 = .ok (.iload_n 2, 1) := by decide +kernel
theorem dX1_formOf_12 : decode cX1_formOf 12 = .ok (.iload_n 0, 1) := by decide +kernel
theorem dX1_formOf_13 : decode cX1_formOf 13 = .ok (.invokestatic 22, 3) := by decide +kernel
theorem dX1_formOf_16 : decode cX1_formOf 16 = .ok (.invokestatic 25, 3) := by decide +kernel
theorem dX1_formOf_19 : decode cX1_formOf 19 = .ok (.istore_n 1, 1) := by decide +kernel
theorem dX1_formOf_20 : decode cX1_formOf 20 = .ok (.iinc 2 1, 3) := by decide +kernel
theorem dX1_formOf_23 : decode cX1_formOf 23 = .ok (.goto (-19), 3) := by decide +kernel
theorem dX1_formOf_26 : decode cX1_formOf 26 = .ok (.iload_n 1, 1) := by decide +kernel
theorem dX1_formOf_27 : decode cX1_formOf 27 = .ok (.ireturn, 1) := by decide +kernel
theorem dX1_classOf_0 : decode cX1_classOf 0 = .ok (.iload_n 0, 1) := by decide +kernel
theorem dX1_classOf_1 : decode cX1_classOf 1 = .ok (.invokestatic 30, 3) := by decide +kernel
theorem dX1_classOf_4 : decode cX1_classOf 4 = .ok (.istore_n 1, 1) := by decide +kernel
theorem dX1_classOf_5 : decode cX1_classOf 5 = .ok (.iconst 0, 1) := by decide +kernel
theorem dX1_classOf_6 : decode cX1_classOf 6 = .ok (.istore_n 2, 1) := by decide +kernel
theorem dX1_classOf_7 : decode cX1_classOf 7 = .ok (.iload_n 2, 1) := by decide +kernel
theorem dX1_classOf_8 : decode cX1_classOf 8 = .ok (.getstatic 34, 3) := by decide +kernel
theorem dX1_classOf_11 : decode cX1_classOf 11 = .ok (.arraylength, 1) := by decide +kernel
theorem dX1_classOf_12 : decode cX1_classOf 12 = .ok (.if_icmp .ge 20, 3) := by decide +kernel
theorem dX1_classOf_15 : decode cX1_classOf 15 = .ok (.getstatic 34, 3) := by decide +kernel
theorem dX1_classOf_18 : decode cX1_classOf 18 = .ok (.iload_n 2, 1) := by decide +kernel
theorem dX1_classOf_19 : decode cX1_classOf 19 = .ok (.iaload, 1) := by decide +kernel
theorem dX1_classOf_20 : decode cX1_classOf 20 = .ok (.iload_n 1, 1) := by decide +kernel
theorem dX1_classOf_21 : decode cX1_classOf 21 = .ok (.if_icmp .ne 5, 3) := by decide +kernel
theorem dX1_classOf_24 : decode cX1_classOf 24 = .ok (.iload_n 2, 1) := by decide +kernel
theorem dX1_classOf_25 : decode cX1_classOf 25 = .ok (.ireturn, 1) := by decide +kernel
theorem dX1_classOf_26 : decode cX1_classOf 26 = .ok (.iinc 2 1, 3) := by decide +kernel
theorem dX1_classOf_29 : decode cX1_classOf 29 = .ok (.goto (-22), 3) := by decide +kernel
theorem dX1_classOf_32 : decode cX1_classOf 32 = .ok (.iconst (-1), 1) := by decide +kernel
theorem dX1_classOf_33 : decode cX1_classOf 33 = .ok (.ireturn, 1) := by decide +kernel
theorem dX1_classesWith_0 : decode cX1_classesWith 0 = .ok (.iconst 0, 1) := by decide +kernel
theorem dX1_classesWith_1 : decode cX1_classesWith 1 = .ok (.istore_n 1, 1) := by decide +kernel
theorem dX1_classesWith_2 : decode cX1_classesWith 2 = .ok (.iconst 0, 1) := by decide +kernel
theorem dX1_classesWith_3 : decode cX1_classesWith 3 = .ok (.istore_n 2, 1) := by decide +kernel
theorem dX1_classesWith_4 : decode cX1_classesWith 4 = .ok (.iload_n 2, 1) := by decide +kernel
theorem dX1_classesWith_5 : decode cX1_classesWith 5 = .ok (.getstatic 34, 3) := by decide +kernel
theorem dX1_classesWith_8 : decode cX1_classesWith 8 = .ok (.arraylength, 1) := by decide +kernel
theorem dX1_classesWith_9 : decode cX1_classesWith 9 = .ok (.if_icmp .ge 24, 3) := by decide +kernel
theorem dX1_classesWith_12 : decode cX1_classesWith 12 = .ok (.getstatic 34, 3) := by decide +kernel
theorem dX1_classesWith_15 : decode cX1_classesWith 15 = .ok (.iload_n 2, 1) := by decide +kernel
theorem dX1_classesWith_16 : decode cX1_classesWith 16 = .ok (.iaload, 1) := by decide +kernel
theorem dX1_classesWith_17 : decode cX1_classesWith 17 = .ok (.invokestatic 37, 3) := by decide +kernel
theorem dX1_classesWith_20 : decode cX1_classesWith 20 = .ok (.iload_n 0, 1) := by decide +kernel
theorem dX1_classesWith_21 : decode cX1_classesWith 21 = .ok (.if_icmp .ne 6, 3) := by decide +kernel
theorem dX1_classesWith_24 : decode cX1_classesWith 24 = .ok (.iinc 1 1, 3) := by decide +kernel
theorem dX1_classesWith_27 : decode cX1_classesWith 27 = .ok (.iinc 2 1, 3) := by decide +kernel
theorem dX1_classesWith_30 : decode cX1_classesWith 30 = .ok (.goto (-26), 3) := by decide +kernel
theorem dX1_classesWith_33 : decode cX1_classesWith 33 = .ok (.iload_n 1, 1) := by decide +kernel
theorem dX1_classesWith_34 : decode cX1_classesWith 34 = .ok (.ireturn, 1) := by decide +kernel
theorem dX1_stillMoves_0 : decode cX1_stillMoves 0 = .ok (.iconst 0, 1) := by decide +kernel
theorem dX1_stillMoves_1 : decode cX1_stillMoves 1 = .ok (.istore_n 1, 1) := by decide +kernel
theorem dX1_stillMoves_2 : decode cX1_stillMoves 2 = .ok (.iconst 0, 1) := by decide +kernel
theorem dX1_stillMoves_3 : decode cX1_stillMoves 3 = .ok (.istore_n 2, 1) := by decide +kernel
theorem dX1_stillMoves_4 : decode cX1_stillMoves 4 = .ok (.iload_n 2, 1) := by decide +kernel
theorem dX1_stillMoves_5 : decode cX1_stillMoves 5 = .ok (.bipush 48, 2) := by decide +kernel
theorem dX1_stillMoves_7 : decode cX1_stillMoves 7 = .ok (.if_icmp .ge 21, 3) := by decide +kernel
theorem dX1_stillMoves_10 : decode cX1_stillMoves 10 = .ok (.iload_n 2, 1) := by decide +kernel
theorem dX1_stillMoves_11 : decode cX1_stillMoves 11 = .ok (.iload_n 0, 1) := by decide +kernel
theorem dX1_stillMoves_12 : decode cX1_stillMoves 12 = .ok (.invokestatic 22, 3) := by decide +kernel
theorem dX1_stillMoves_15 : decode cX1_stillMoves 15 = .ok (.iload_n 0, 1) := by decide +kernel
theorem dX1_stillMoves_16 : decode cX1_stillMoves 16 = .ok (.if_icmp .ne 6, 3) := by decide +kernel
theorem dX1_stillMoves_19 : decode cX1_stillMoves 19 = .ok (.iinc 1 1, 3) := by decide +kernel
theorem dX1_stillMoves_22 : decode cX1_stillMoves 22 = .ok (.iinc 2 1, 3) := by decide +kernel
theorem dX1_stillMoves_25 : decode cX1_stillMoves 25 = .ok (.goto (-21), 3) := by decide +kernel
theorem dX1_stillMoves_28 : decode cX1_stillMoves 28 = .ok (.iload_n 1, 1) := by decide +kernel
theorem dX1_stillMoves_29 : decode cX1_stillMoves 29 = .ok (.ireturn, 1) := by decide +kernel
theorem dX1_unlikeImages_0 : decode cX1_unlikeImages 0 = .ok (.iload_n 0, 1) := by decide +kernel
theorem dX1_unlikeImages_1 : decode cX1_unlikeImages 1 = .ok (.invokestatic 42, 3) := by decide +kernel
theorem dX1_unlikeImages_4 : decode cX1_unlikeImages 4 = .ok (.istore_n 1, 1) := by decide +kernel
theorem dX1_unlikeImages_5 : decode cX1_unlikeImages 5 = .ok (.iload_n 1, 1) := by decide +kernel
theorem dX1_unlikeImages_6 : decode cX1_unlikeImages 6 = .ok (.ifCond .ne 8, 3) := by decide +kernel
theorem dX1_unlikeImages_9 : decode cX1_unlikeImages 9 = .ok (.bipush 48, 2) := by decide +kernel
theorem dX1_unlikeImages_11 : decode cX1_unlikeImages 11 = .ok (.goto 7, 3) := by decide +kernel
theorem dX1_unlikeImages_14 : decode cX1_unlikeImages 14 = .ok (.bipush 48, 2) := by decide +kernel
theorem dX1_unlikeImages_16 : decode cX1_unlikeImages 16 = .ok (.iload_n 1, 1) := by decide +kernel
theorem dX1_unlikeImages_17 : decode cX1_unlikeImages 17 = .ok (.idiv, 1) := by decide +kernel
theorem dX1_unlikeImages_18 : decode cX1_unlikeImages 18 = .ok (.ireturn, 1) := by decide +kernel
theorem dX1_distance_0 : decode cX1_distance 0 = .ok (.bipush 8, 2) := by decide +kernel
theorem dX1_distance_2 : decode cX1_distance 2 = .ok (.istore_n 2, 1) := by decide +kernel
theorem dX1_distance_3 : decode cX1_distance 3 = .ok (.iconst 0, 1) := by decide +kernel
theorem dX1_distance_4 : decode cX1_distance 4 = .ok (.istore_n 3, 1) := by decide +kernel
theorem dX1_distance_5 : decode cX1_distance 5 = .ok (.iload_n 3, 1) := by decide +kernel
theorem dX1_distance_6 : decode cX1_distance 6 = .ok (.bipush 48, 2) := by decide +kernel
theorem dX1_distance_8 : decode cX1_distance 8 = .ok (.if_icmp .ge 24, 3) := by decide +kernel
theorem dX1_distance_11 : decode cX1_distance 11 = .ok (.iload_n 2, 1) := by decide +kernel
theorem dX1_distance_12 : decode cX1_distance 12 = .ok (.iload_n 3, 1) := by decide +kernel
theorem dX1_distance_13 : decode cX1_distance 13 = .ok (.iload_n 0, 1) := by decide +kernel
theorem dX1_distance_14 : decode cX1_distance 14 = .ok (.invokestatic 22, 3) := by decide +kernel
theorem dX1_distance_17 : decode cX1_distance 17 = .ok (.iload_n 1, 1) := by decide +kernel
theorem dX1_distance_18 : decode cX1_distance 18 = .ok (.ixor, 1) := by decide +kernel
theorem dX1_distance_19 : decode cX1_distance 19 = .ok (.invokestatic 37, 3) := by decide +kernel
theorem dX1_distance_22 : decode cX1_distance 22 = .ok (.invokestatic 25, 3) := by decide +kernel
theorem dX1_distance_25 : decode cX1_distance 25 = .ok (.istore_n 2, 1) := by decide +kernel
theorem dX1_distance_26 : decode cX1_distance 26 = .ok (.iinc 3 1, 3) := by decide +kernel
theorem dX1_distance_29 : decode cX1_distance 29 = .ok (.goto (-24), 3) := by decide +kernel
theorem dX1_distance_32 : decode cX1_distance 32 = .ok (.iload_n 2, 1) := by decide +kernel
theorem dX1_distance_33 : decode cX1_distance 33 = .ok (.ireturn, 1) := by decide +kernel
theorem dX1_commonOverMoves_0 : decode cX1_commonOverMoves 0 = .ok (.iconst 0, 1) := by decide +kernel
theorem dX1_commonOverMoves_1 : decode cX1_commonOverMoves 1 = .ok (.istore_n 2, 1) := by decide +kernel
theorem dX1_commonOverMoves_2 : decode cX1_commonOverMoves 2 = .ok (.iconst 0, 1) := by decide +kernel
theorem dX1_commonOverMoves_3 : decode cX1_commonOverMoves 3 = .ok (.istore_n 3, 1) := by decide +kernel
theorem dX1_commonOverMoves_4 : decode cX1_commonOverMoves 4 = .ok (.iload_n 3, 1) := by decide +kernel
theorem dX1_commonOverMoves_5 : decode cX1_commonOverMoves 5 = .ok (.bipush 48, 2) := by decide +kernel
theorem dX1_commonOverMoves_7 : decode cX1_commonOverMoves 7 = .ok (.if_icmp .ge 22, 3) := by decide +kernel
theorem dX1_commonOverMoves_10 : decode cX1_commonOverMoves 10 = .ok (.iload_n 2, 1) := by decide +kernel
theorem dX1_commonOverMoves_11 : decode cX1_commonOverMoves 11 = .ok (.iload_n 3, 1) := by decide +kernel
theorem dX1_commonOverMoves_12 : decode cX1_commonOverMoves 12 = .ok (.iload_n 0, 1) := by decide +kernel
theorem dX1_commonOverMoves_13 : decode cX1_commonOverMoves 13 = .ok (.invokestatic 22, 3) := by decide +kernel
theorem dX1_commonOverMoves_16 : decode cX1_commonOverMoves 16 = .ok (.iload_n 1, 1) := by decide +kernel
theorem dX1_commonOverMoves_17 : decode cX1_commonOverMoves 17 = .ok (.iand, 1) := by decide +kernel
theorem dX1_commonOverMoves_18 : decode cX1_commonOverMoves 18 = .ok (.invokestatic 37, 3) := by decide +kernel
theorem dX1_commonOverMoves_21 : decode cX1_commonOverMoves 21 = .ok (.iadd, 1) := by decide +kernel
theorem dX1_commonOverMoves_22 : decode cX1_commonOverMoves 22 = .ok (.istore_n 2, 1) := by decide +kernel
theorem dX1_commonOverMoves_23 : decode cX1_commonOverMoves 23 = .ok (.iinc 3 1, 3) := by decide +kernel
theorem dX1_commonOverMoves_26 : decode cX1_commonOverMoves 26 = .ok (.goto (-22), 3) := by decide +kernel
theorem dX1_commonOverMoves_29 : decode cX1_commonOverMoves 29 = .ok (.iload_n 2, 1) := by decide +kernel
theorem dX1_commonOverMoves_30 : decode cX1_commonOverMoves 30 = .ok (.ireturn, 1) := by decide +kernel
theorem dX1_dimension_0 : decode cX1_dimension 0 = .ok (.iload_n 0, 1) := by decide +kernel
theorem dX1_dimension_1 : decode cX1_dimension 1 = .ok (.invokestatic 37, 3) := by decide +kernel
theorem dX1_dimension_4 : decode cX1_dimension 4 = .ok (.istore_n 1, 1) := by decide +kernel
theorem dX1_dimension_5 : decode cX1_dimension 5 = .ok (.iload_n 1, 1) := by decide +kernel
theorem dX1_dimension_6 : decode cX1_dimension 6 = .ok (.iconst 3, 1) := by decide +kernel
theorem dX1_dimension_7 : decode cX1_dimension 7 = .ok (.if_icmp .gt 7, 3) := by decide +kernel
theorem dX1_dimension_10 : decode cX1_dimension 10 = .ok (.iload_n 1, 1) := by decide +kernel
theorem dX1_dimension_11 : decode cX1_dimension 11 = .ok (.iconst 1, 1) := by decide +kernel
theorem dX1_dimension_12 : decode cX1_dimension 12 = .ok (.isub, 1) := by decide +kernel
theorem dX1_dimension_13 : decode cX1_dimension 13 = .ok (.ireturn, 1) := by decide +kernel
theorem dX1_dimension_14 : decode cX1_dimension 14 = .ok (.iload_n 0, 1) := by decide +kernel
theorem dX1_dimension_15 : decode cX1_dimension 15 = .ok (.invokestatic 45, 3) := by decide +kernel
theorem dX1_dimension_18 : decode cX1_dimension 18 = .ok (.istore_n 2, 1) := by decide +kernel
theorem dX1_dimension_19 : decode cX1_dimension 19 = .ok (.iload_n 0, 1) := by decide +kernel
theorem dX1_dimension_20 : decode cX1_dimension 20 = .ok (.iconst 1, 1) := by decide +kernel
theorem dX1_dimension_21 : decode cX1_dimension 21 = .ok (.iload_n 2, 1) := by decide +kernel
theorem dX1_dimension_22 : decode cX1_dimension 22 = .ok (.ishl, 1) := by decide +kernel
theorem dX1_dimension_23 : decode cX1_dimension 23 = .ok (.iconst (-1), 1) := by decide +kernel
theorem dX1_dimension_24 : decode cX1_dimension 24 = .ok (.ixor, 1) := by decide +kernel
theorem dX1_dimension_25 : decode cX1_dimension 25 = .ok (.iand, 1) := by decide +kernel
theorem dX1_dimension_26 : decode cX1_dimension 26 = .ok (.istore_n 3, 1) := by decide +kernel
theorem dX1_dimension_27 : decode cX1_dimension 27 = .ok (.iconst 0, 1) := by decide +kernel
theorem dX1_dimension_28 : decode cX1_dimension 28 = .ok (.istore 4, 2) := by decide +kernel
theorem dX1_dimension_30 : decode cX1_dimension 30 = .ok (.iload 4, 2) := by decide +kernel
theorem dX1_dimension_32 : decode cX1_dimension 32 = .ok (.bipush 8, 2) := by decide +kernel
theorem dX1_dimension_34 : decode cX1_dimension 34 = .ok (.if_icmp .ge 81, 3) := by decide +kernel
theorem dX1_dimension_37 : decode cX1_dimension 37 = .ok (.iconst 0, 1) := by decide +kernel
theorem dX1_dimension_38 : decode cX1_dimension 38 = .ok (.istore 5, 2) := by decide +kernel
theorem dX1_dimension_40 : decode cX1_dimension 40 = .ok (.iload 5, 2) := by decide +kernel
theorem dX1_dimension_42 : decode cX1_dimension 42 = .ok (.iload 4, 2) := by decide +kernel
theorem dX1_dimension_44 : decode cX1_dimension 44 = .ok (.if_icmp .ge 65, 3) := by decide +kernel
theorem dX1_dimension_47 : decode cX1_dimension 47 = .ok (.iconst 0, 1) := by decide +kernel
theorem dX1_dimension_48 : decode cX1_dimension 48 = .ok (.istore 6, 2) := by decide +kernel
theorem dX1_dimension_50 : decode cX1_dimension 50 = .ok (.iload 6, 2) := by decide +kernel
theorem dX1_dimension_52 : decode cX1_dimension 52 = .ok (.iload 5, 2) := by decide +kernel
theorem dX1_dimension_54 : decode cX1_dimension 54 = .ok (.if_icmp .ge 49, 3) := by decide +kernel
theorem dX1_dimension_57 : decode cX1_dimension 57 = .ok (.iconst 1, 1) := by decide +kernel
theorem dX1_dimension_58 : decode cX1_dimension 58 = .ok (.iload 4, 2) := by decide +kernel
theorem dX1_dimension_60 : decode cX1_dimension 60 = .ok (.ishl, 1) := by decide +kernel
theorem dX1_dimension_61 : decode cX1_dimension 61 = .ok (.iconst 1, 1) := by decide +kernel
theorem dX1_dimension_62 : decode cX1_dimension 62 = .ok (.iload 5, 2) := by decide +kernel
theorem dX1_dimension_64 : decode cX1_dimension 64 = .ok (.ishl, 1) := by decide +kernel
theorem dX1_dimension_65 : decode cX1_dimension 65 = .ok (.ior, 1) := by decide +kernel
theorem dX1_dimension_66 : decode cX1_dimension 66 = .ok (.iconst 1, 1) := by decide +kernel
theorem dX1_dimension_67 : decode cX1_dimension 67 = .ok (.iload 6, 2) := by decide +kernel
theorem dX1_dimension_69 : decode cX1_dimension 69 = .ok (.ishl, 1) := by decide +kernel
theorem dX1_dimension_70 : decode cX1_dimension 70 = .ok (.ior, 1) := by decide +kernel
theorem dX1_dimension_71 : decode cX1_dimension 71 = .ok (.istore 7, 2) := by decide +kernel
theorem dX1_dimension_73 : decode cX1_dimension 73 = .ok (.iload_n 3, 1) := by decide +kernel
theorem dX1_dimension_74 : decode cX1_dimension 74 = .ok (.iload 7, 2) := by decide +kernel
theorem dX1_dimension_76 : decode cX1_dimension 76 = .ok (.iand, 1) := by decide +kernel
theorem dX1_dimension_77 : decode cX1_dimension 77 = .ok (.iload 7, 2) := by decide +kernel
theorem dX1_dimension_79 : decode cX1_dimension 79 = .ok (.if_icmp .ne 18, 3) := by decide +kernel
theorem dX1_dimension_82 : decode cX1_dimension 82 = .ok (.iload_n 2, 1) := by decide +kernel
theorem dX1_dimension_83 : decode cX1_dimension 83 = .ok (.iload 4, 2) := by decide +kernel
theorem dX1_dimension_85 : decode cX1_dimension 85 = .ok (.iload 5, 2) := by decide +kernel
theorem dX1_dimension_87 : decode cX1_dimension 87 = .ok (.iload 6, 2) := by decide +kernel
theorem dX1_dimension_89 : decode cX1_dimension 89 = .ok (.invokestatic 48, 3) := by decide +kernel
theorem dX1_dimension_92 : decode cX1_dimension 92 = .ok (.ifCond .eq 5, 3) := by decide +kernel
theorem dX1_dimension_95 : decode cX1_dimension 95 = .ok (.iconst 3, 1) := by decide +kernel
theorem dX1_dimension_96 : decode cX1_dimension 96 = .ok (.ireturn, 1) := by decide +kernel
theorem dX1_dimension_97 : decode cX1_dimension 97 = .ok (.iinc 6 1, 3) := by decide +kernel
theorem dX1_dimension_100 : decode cX1_dimension 100 = .ok (.goto (-50), 3) := by decide +kernel
theorem dX1_dimension_103 : decode cX1_dimension 103 = .ok (.iinc 5 1, 3) := by decide +kernel
theorem dX1_dimension_106 : decode cX1_dimension 106 = .ok (.goto (-66), 3) := by decide +kernel
theorem dX1_dimension_109 : decode cX1_dimension 109 = .ok (.iinc 4 1, 3) := by decide +kernel
theorem dX1_dimension_112 : decode cX1_dimension 112 = .ok (.goto (-82), 3) := by decide +kernel
theorem dX1_dimension_115 : decode cX1_dimension 115 = .ok (.iconst 2, 1) := by decide +kernel
theorem dX1_dimension_116 : decode cX1_dimension 116 = .ok (.ireturn, 1) := by decide +kernel
theorem dX1_leastCorner_0 : decode cX1_leastCorner 0 = .ok (.iconst 0, 1) := by decide +kernel
theorem dX1_leastCorner_1 : decode cX1_leastCorner 1 = .ok (.istore_n 1, 1) := by decide +kernel
theorem dX1_leastCorner_2 : decode cX1_leastCorner 2 = .ok (.iload_n 1, 1) := by decide +kernel
theorem dX1_leastCorner_3 : decode cX1_leastCorner 3 = .ok (.bipush 7, 2) := by decide +kernel
theorem dX1_leastCorner_5 : decode cX1_leastCorner 5 = .ok (.if_icmp .ge 17, 3) := by decide +kernel
theorem dX1_leastCorner_8 : decode cX1_leastCorner 8 = .ok (.iload_n 0, 1) := by decide +kernel
theorem dX1_leastCorner_9 : decode cX1_leastCorner 9 = .ok (.iload_n 1, 1) := by decide +kernel
theorem dX1_leastCorner_10 : decode cX1_leastCorner 10 = .ok (.invokestatic 15, 3) := by decide +kernel
theorem dX1_leastCorner_13 : decode cX1_leastCorner 13 = .ok (.ifCond .ne 9, 3) := by decide +kernel
theorem dX1_leastCorner_16 : decode cX1_leastCorner 16 = .ok (.iinc 1 1, 3) := by decide +kernel
theorem dX1_leastCorner_19 : decode cX1_leastCorner 19 = .ok (.goto (-17), 3) := by decide +kernel
theorem dX1_leastCorner_22 : decode cX1_leastCorner 22 = .ok (.iload_n 1, 1) := by decide +kernel
theorem dX1_leastCorner_23 : decode cX1_leastCorner 23 = .ok (.ireturn, 1) := by decide +kernel
theorem dX1_determinant_0 : decode cX1_determinant 0 = .ok (.iload_n 0, 1) := by decide +kernel
theorem dX1_determinant_1 : decode cX1_determinant 1 = .ok (.iload_n 1, 1) := by decide +kernel
theorem dX1_determinant_2 : decode cX1_determinant 2 = .ok (.iconst 0, 1) := by decide +kernel
theorem dX1_determinant_3 : decode cX1_determinant 3 = .ok (.invokestatic 52, 3) := by decide +kernel
theorem dX1_determinant_6 : decode cX1_determinant 6 = .ok (.iload_n 0, 1) := by decide +kernel
theorem dX1_determinant_7 : decode cX1_determinant 7 = .ok (.iload_n 2, 1) := by decide +kernel
theorem dX1_determinant_8 : decode cX1_determinant 8 = .ok (.iload_n 3, 1) := by decide +kernel
theorem dX1_determinant_9 : decode cX1_determinant 9 = .ok (.iconst 1, 1) := by decide +kernel
theorem dX1_determinant_10 : decode cX1_determinant 10 = .ok (.iconst 2, 1) := by decide +kernel
theorem dX1_determinant_11 : decode cX1_determinant 11 = .ok (.invokestatic 56, 3) := by decide +kernel
theorem dX1_determinant_14 : decode cX1_determinant 14 = .ok (.imul, 1) := by decide +kernel
theorem dX1_determinant_15 : decode cX1_determinant 15 = .ok (.iload_n 0, 1) := by decide +kernel
theorem dX1_determinant_16 : decode cX1_determinant 16 = .ok (.iload_n 1, 1) := by decide +kernel
theorem dX1_determinant_17 : decode cX1_determinant 17 = .ok (.iconst 1, 1) := by decide +kernel
theorem dX1_determinant_18 : decode cX1_determinant 18 = .ok (.invokestatic 52, 3) := by decide +kernel
theorem dX1_determinant_21 : decode cX1_determinant 21 = .ok (.iload_n 0, 1) := by decide +kernel
theorem dX1_determinant_22 : decode cX1_determinant 22 = .ok (.iload_n 2, 1) := by decide +kernel
theorem dX1_determinant_23 : decode cX1_determinant 23 = .ok (.iload_n 3, 1) := by decide +kernel
theorem dX1_determinant_24 : decode cX1_determinant 24 = .ok (.iconst 0, 1) := by decide +kernel
theorem dX1_determinant_25 : decode cX1_determinant 25 = .ok (.iconst 2, 1) := by decide +kernel
theorem dX1_determinant_26 : decode cX1_determinant 26 = .ok (.invokestatic 56, 3) := by decide +kernel
theorem dX1_determinant_29 : decode cX1_determinant 29 = .ok (.imul, 1) := by decide +kernel
theorem dX1_determinant_30 : decode cX1_determinant 30 = .ok (.isub, 1) := by decide +kernel
theorem dX1_determinant_31 : decode cX1_determinant 31 = .ok (.iload_n 0, 1) := by decide +kernel
theorem dX1_determinant_32 : decode cX1_determinant 32 = .ok (.iload_n 1, 1) := by decide +kernel
theorem dX1_determinant_33 : decode cX1_determinant 33 = .ok (.iconst 2, 1) := by decide +kernel
theorem dX1_determinant_34 : decode cX1_determinant 34 = .ok (.invokestatic 52, 3) := by decide +kernel
theorem dX1_determinant_37 : decode cX1_determinant 37 = .ok (.iload_n 0, 1) := by decide +kernel
theorem dX1_determinant_38 : decode cX1_determinant 38 = .ok (.iload_n 2, 1) := by decide +kernel
theorem dX1_determinant_39 : decode cX1_determinant 39 = .ok (.iload_n 3, 1) := by decide +kernel
theorem dX1_determinant_40 : decode cX1_determinant 40 = .ok (.iconst 0, 1) := by decide +kernel
theorem dX1_determinant_41 : decode cX1_determinant 41 = .ok (.iconst 1, 1) := by decide +kernel
theorem dX1_determinant_42 : decode cX1_determinant 42 = .ok (.invokestatic 56, 3) := by decide +kernel
theorem dX1_determinant_45 : decode cX1_determinant 45 = .ok (.imul, 1) := by decide +kernel
theorem dX1_determinant_46 : decode cX1_determinant 46 = .ok (.iadd, 1) := by decide +kernel
theorem dX1_determinant_47 : decode cX1_determinant 47 = .ok (.ireturn, 1) := by decide +kernel
theorem dX1_minor_0 : decode cX1_minor 0 = .ok (.iload_n 0, 1) := by decide +kernel
theorem dX1_minor_1 : decode cX1_minor 1 = .ok (.iload_n 1, 1) := by decide +kernel
theorem dX1_minor_2 : decode cX1_minor 2 = .ok (.iload_n 3, 1) := by decide +kernel
theorem dX1_minor_3 : decode cX1_minor 3 = .ok (.invokestatic 52, 3) := by decide +kernel
theorem dX1_minor_6 : decode cX1_minor 6 = .ok (.iload_n 0, 1) := by decide +kernel
theorem dX1_minor_7 : decode cX1_minor 7 = .ok (.iload_n 2, 1) := by decide +kernel
theorem dX1_minor_8 : decode cX1_minor 8 = .ok (.iload 4, 2) := by decide +kernel
theorem dX1_minor_10 : decode cX1_minor 10 = .ok (.invokestatic 52, 3) := by decide +kernel
theorem dX1_minor_13 : decode cX1_minor 13 = .ok (.imul, 1) := by decide +kernel
theorem dX1_minor_14 : decode cX1_minor 14 = .ok (.iload_n 0, 1) := by decide +kernel
theorem dX1_minor_15 : decode cX1_minor 15 = .ok (.iload_n 1, 1) := by decide +kernel
theorem dX1_minor_16 : decode cX1_minor 16 = .ok (.iload 4, 2) := by decide +kernel
theorem dX1_minor_18 : decode cX1_minor 18 = .ok (.invokestatic 52, 3) := by decide +kernel
theorem dX1_minor_21 : decode cX1_minor 21 = .ok (.iload_n 0, 1) := by decide +kernel
theorem dX1_minor_22 : decode cX1_minor 22 = .ok (.iload_n 2, 1) := by decide +kernel
theorem dX1_minor_23 : decode cX1_minor 23 = .ok (.iload_n 3, 1) := by decide +kernel
theorem dX1_minor_24 : decode cX1_minor 24 = .ok (.invokestatic 52, 3) := by decide +kernel
theorem dX1_minor_27 : decode cX1_minor 27 = .ok (.imul, 1) := by decide +kernel
theorem dX1_minor_28 : decode cX1_minor 28 = .ok (.isub, 1) := by decide +kernel
theorem dX1_minor_29 : decode cX1_minor 29 = .ok (.ireturn, 1) := by decide +kernel
theorem dX1_away_0 : decode cX1_away 0 = .ok (.iload_n 1, 1) := by decide +kernel
theorem dX1_away_1 : decode cX1_away 1 = .ok (.iload_n 2, 1) := by decide +kernel
theorem dX1_away_2 : decode cX1_away 2 = .ok (.invokestatic 15, 3) := by decide +kernel
theorem dX1_away_5 : decode cX1_away 5 = .ok (.iload_n 0, 1) := by decide +kernel
theorem dX1_away_6 : decode cX1_away 6 = .ok (.iload_n 2, 1) := by decide +kernel
theorem dX1_away_7 : decode cX1_away 7 = .ok (.invokestatic 15, 3) := by decide +kernel
theorem dX1_away_10 : decode cX1_away 10 = .ok (.isub, 1) := by decide +kernel
theorem dX1_away_11 : decode cX1_away 11 = .ok (.ireturn, 1) := by decide +kernel
theorem dX1_centre_0 : decode cX1_centre 0 = .ok (.iload_n 0, 1) := by decide +kernel
theorem dX1_centre_1 : decode cX1_centre 1 = .ok (.invokestatic 37, 3) := by decide +kernel
theorem dX1_centre_4 : decode cX1_centre 4 = .ok (.istore_n 2, 1) := by decide +kernel
theorem dX1_centre_5 : decode cX1_centre 5 = .ok (.iload_n 2, 1) := by decide +kernel
theorem dX1_centre_6 : decode cX1_centre 6 = .ok (.ifCond .ne 5, 3) := by decide +kernel
theorem dX1_centre_9 : decode cX1_centre 9 = .ok (.fconst 0, 1) := by decide +kernel
theorem dX1_centre_10 : decode cX1_centre 10 = .ok (.freturn, 1) := by decide +kernel
theorem dX1_centre_11 : decode cX1_centre 11 = .ok (.fconst 0, 1) := by decide +kernel
theorem dX1_centre_12 : decode cX1_centre 12 = .ok (.fstore_n 3, 1) := by decide +kernel
theorem dX1_centre_13 : decode cX1_centre 13 = .ok (.iconst 0, 1) := by decide +kernel
theorem dX1_centre_14 : decode cX1_centre 14 = .ok (.istore 4, 2) := by decide +kernel
theorem dX1_centre_16 : decode cX1_centre 16 = .ok (.iload 4, 2) := by decide +kernel
theorem dX1_centre_18 : decode cX1_centre 18 = .ok (.bipush 8, 2) := by decide +kernel
theorem dX1_centre_20 : decode cX1_centre 20 = .ok (.if_icmp .ge 29, 3) := by decide +kernel
theorem dX1_centre_23 : decode cX1_centre 23 = .ok (.iload_n 0, 1) := by decide +kernel
theorem dX1_centre_24 : decode cX1_centre 24 = .ok (.iload 4, 2) := by decide +kernel
theorem dX1_centre_26 : decode cX1_centre 26 = .ok (.invokestatic 15, 3) := by decide +kernel
theorem dX1_centre_29 : decode cX1_centre 29 = .ok (.iconst 1, 1) := by decide +kernel
theorem dX1_centre_30 : decode cX1_centre 30 = .ok (.if_icmp .ne 13, 3) := by decide +kernel
theorem dX1_centre_33 : decode cX1_centre 33 = .ok (.fload_n 3, 1) := by decide +kernel
theorem dX1_centre_34 : decode cX1_centre 34 = .ok (.iload 4, 2) := by decide +kernel
theorem dX1_centre_36 : decode cX1_centre 36 = .ok (.iload_n 1, 1) := by decide +kernel
theorem dX1_centre_37 : decode cX1_centre 37 = .ok (.invokestatic 15, 3) := by decide +kernel
theorem dX1_centre_40 : decode cX1_centre 40 = .ok (.i2f, 1) := by decide +kernel
theorem dX1_centre_41 : decode cX1_centre 41 = .ok (.fadd, 1) := by decide +kernel
theorem dX1_centre_42 : decode cX1_centre 42 = .ok (.fstore_n 3, 1) := by decide +kernel
theorem dX1_centre_43 : decode cX1_centre 43 = .ok (.iinc 4 1, 3) := by decide +kernel
theorem dX1_centre_46 : decode cX1_centre 46 = .ok (.goto (-30), 3) := by decide +kernel
theorem dX1_centre_49 : decode cX1_centre 49 = .ok (.fload_n 3, 1) := by decide +kernel
theorem dX1_centre_50 : decode cX1_centre 50 = .ok (.iload_n 2, 1) := by decide +kernel
theorem dX1_centre_51 : decode cX1_centre 51 = .ok (.i2f, 1) := by decide +kernel
theorem dX1_centre_52 : decode cX1_centre 52 = .ok (.fdiv, 1) := by decide +kernel
theorem dX1_centre_53 : decode cX1_centre 53 = .ok (.freturn, 1) := by decide +kernel
theorem dX1_spreadOf_0 : decode cX1_spreadOf 0 = .ok (.dconst 0, 1) := by decide +kernel
theorem dX1_spreadOf_1 : decode cX1_spreadOf 1 = .ok (.dstore_n 1, 1) := by decide +kernel
theorem dX1_spreadOf_2 : decode cX1_spreadOf 2 = .ok (.iconst 0, 1) := by decide +kernel
theorem dX1_spreadOf_3 : decode cX1_spreadOf 3 = .ok (.istore_n 3, 1) := by decide +kernel
theorem dX1_spreadOf_4 : decode cX1_spreadOf 4 = .ok (.iload_n 3, 1) := by decide +kernel
theorem dX1_spreadOf_5 : decode cX1_spreadOf 5 = .ok (.iconst 3, 1) := by decide +kernel
theorem dX1_spreadOf_6 : decode cX1_spreadOf 6 = .ok (.if_icmp .ge 29, 3) := by decide +kernel
theorem dX1_spreadOf_9 : decode cX1_spreadOf 9 = .ok (.iload_n 0, 1) := by decide +kernel
theorem dX1_spreadOf_10 : decode cX1_spreadOf 10 = .ok (.iload_n 3, 1) := by decide +kernel
theorem dX1_spreadOf_11 : decode cX1_spreadOf 11 = .ok (.invokestatic 60, 3) := by decide +kernel
theorem dX1_spreadOf_14 : decode cX1_spreadOf 14 = .ok (.f2d, 1) := by decide +kernel
theorem dX1_spreadOf_15 : decode cX1_spreadOf 15 = .ok (.ldc2_w 64, 3) := by decide +kernel
theorem dX1_spreadOf_18 : decode cX1_spreadOf 18 = .ok (.dsub, 1) := by decide +kernel
theorem dX1_spreadOf_19 : decode cX1_spreadOf 19 = .ok (.dstore 4, 2) := by decide +kernel
theorem dX1_spreadOf_21 : decode cX1_spreadOf 21 = .ok (.dload_n 1, 1) := by decide +kernel
theorem dX1_spreadOf_22 : decode cX1_spreadOf 22 = .ok (.dload 4, 2) := by decide +kernel
theorem dX1_spreadOf_24 : decode cX1_spreadOf 24 = .ok (.dload 4, 2) := by decide +kernel
theorem dX1_spreadOf_26 : decode cX1_spreadOf 26 = .ok (.dmul, 1) := by decide +kernel
theorem dX1_spreadOf_27 : decode cX1_spreadOf 27 = .ok (.dadd, 1) := by decide +kernel
theorem dX1_spreadOf_28 : decode cX1_spreadOf 28 = .ok (.dstore_n 1, 1) := by decide +kernel
theorem dX1_spreadOf_29 : decode cX1_spreadOf 29 = .ok (.iinc 3 1, 3) := by decide +kernel
theorem dX1_spreadOf_32 : decode cX1_spreadOf 32 = .ok (.goto (-28), 3) := by decide +kernel
theorem dX1_spreadOf_35 : decode cX1_spreadOf 35 = .ok (.dload_n 1, 1) := by decide +kernel
theorem dX1_spreadOf_36 : decode cX1_spreadOf 36 = .ok (.dreturn, 1) := by decide +kernel
theorem dX2_init_0 : decode cX2_init 0 = .ok (.aload_n 0, 1) := by decide +kernel
theorem dX2_init_1 : decode cX2_init 1 = .ok (.invokespecial 3, 3) := by decide +kernel
theorem dX2_init_4 : decode cX2_init 4 = .ok (.aload_n 0, 1) := by decide +kernel
theorem dX2_init_5 : decode cX2_init 5 = .ok (.iconst 0, 1) := by decide +kernel
theorem dX2_init_6 : decode cX2_init 6 = .ok (.putfield 9, 3) := by decide +kernel
theorem dX2_init_9 : decode cX2_init 9 = .ok (.aload_n 0, 1) := by decide +kernel
theorem dX2_init_10 : decode cX2_init 10 = .ok (.iconst 0, 1) := by decide +kernel
theorem dX2_init_11 : decode cX2_init 11 = .ok (.putfield 15, 3) := by decide +kernel
theorem dX2_init_14 : decode cX2_init 14 = .ok (.aload_n 0, 1) := by decide +kernel
theorem dX2_init_15 : decode cX2_init 15 = .ok (.new 18, 3) := by decide +kernel
theorem dX2_init_18 : decode cX2_init 18 = .ok (.dup, 1) := by decide +kernel
theorem dX2_init_19 : decode cX2_init 19 = .ok (.invokespecial 20, 3) := by decide +kernel
theorem dX2_init_22 : decode cX2_init 22 = .ok (.putfield 21, 3) := by decide +kernel
theorem dX2_init_25 : decode cX2_init 25 = .ok (.aload_n 0, 1) := by decide +kernel
theorem dX2_init_26 : decode cX2_init 26 = .ok (.new 18, 3) := by decide +kernel
theorem dX2_init_29 : decode cX2_init 29 = .ok (.dup, 1) := by decide +kernel
theorem dX2_init_30 : decode cX2_init 30 = .ok (.invokespecial 20, 3) := by decide +kernel
theorem dX2_init_33 : decode cX2_init 33 = .ok (.putfield 25, 3) := by decide +kernel
theorem dX2_init_36 : decode cX2_init 36 = .ok (.aload_n 0, 1) := by decide +kernel
theorem dX2_init_37 : decode cX2_init 37 = .ok (.new 18, 3) := by decide +kernel
theorem dX2_init_40 : decode cX2_init 40 = .ok (.dup, 1) := by decide +kernel
theorem dX2_init_41 : decode cX2_init 41 = .ok (.invokespecial 20, 3) := by decide +kernel
theorem dX2_init_44 : decode cX2_init 44 = .ok (.putfield 28, 3) := by decide +kernel
theorem dX2_init_47 : decode cX2_init 47 = .ok (.return_, 1) := by decide +kernel
theorem dX2_change_0 : decode cX2_change 0 = .ok (.iload_n 1, 1) := by decide +kernel
theorem dX2_change_1 : decode cX2_change 1 = .ok (.tableswitch 92 0 3 #[31, 45, 60, 76], 31) := by decide +kernel
theorem dX2_change_32 : decode cX2_change 32 = .ok (.aload_n 0, 1) := by decide +kernel
theorem dX2_change_33 : decode cX2_change 33 = .ok (.aload_n 0, 1) := by decide +kernel
theorem dX2_change_34 : decode cX2_change 34 = .ok (.getfield 9, 3) := by decide +kernel
theorem dX2_change_37 : decode cX2_change 37 = .ok (.invokestatic 31, 3) := by decide +kernel
theorem dX2_change_40 : decode cX2_change 40 = .ok (.putfield 9, 3) := by decide +kernel
theorem dX2_change_43 : decode cX2_change 43 = .ok (.goto 50, 3) := by decide +kernel
theorem dX2_change_46 : decode cX2_change 46 = .ok (.aload_n 0, 1) := by decide +kernel
theorem dX2_change_47 : decode cX2_change 47 = .ok (.dup, 1) := by decide +kernel
theorem dX2_change_48 : decode cX2_change 48 = .ok (.getfield 9, 3) := by decide +kernel
theorem dX2_change_51 : decode cX2_change 51 = .ok (.sipush 255, 3) := by decide +kernel
theorem dX2_change_54 : decode cX2_change 54 = .ok (.ixor, 1) := by decide +kernel
theorem dX2_change_55 : decode cX2_change 55 = .ok (.putfield 9, 3) := by decide +kernel
theorem dX2_change_58 : decode cX2_change 58 = .ok (.goto 35, 3) := by decide +kernel
theorem dX2_change_61 : decode cX2_change 61 = .ok (.aload_n 0, 1) := by decide +kernel
theorem dX2_change_62 : decode cX2_change 62 = .ok (.dup, 1) := by decide +kernel
theorem dX2_change_63 : decode cX2_change 63 = .ok (.getfield 9, 3) := by decide +kernel
theorem dX2_change_66 : decode cX2_change 66 = .ok (.aload_n 0, 1) := by decide +kernel
theorem dX2_change_67 : decode cX2_change 67 = .ok (.getfield 15, 3) := by decide +kernel
theorem dX2_change_70 : decode cX2_change 70 = .ok (.ior, 1) := by decide +kernel
theorem dX2_change_71 : decode cX2_change 71 = .ok (.putfield 9, 3) := by decide +kernel
theorem dX2_change_74 : decode cX2_change 74 = .ok (.goto 19, 3) := by decide +kernel
theorem dX2_change_77 : decode cX2_change 77 = .ok (.aload_n 0, 1) := by decide +kernel
theorem dX2_change_78 : decode cX2_change 78 = .ok (.dup, 1) := by decide +kernel
theorem dX2_change_79 : decode cX2_change 79 = .ok (.getfield 9, 3) := by decide +kernel
theorem dX2_change_82 : decode cX2_change 82 = .ok (.aload_n 0, 1) := by decide +kernel
theorem dX2_change_83 : decode cX2_change 83 = .ok (.getfield 15, 3) := by decide +kernel
theorem dX2_change_86 : decode cX2_change 86 = .ok (.iand, 1) := by decide +kernel
theorem dX2_change_87 : decode cX2_change 87 = .ok (.putfield 9, 3) := by decide +kernel
theorem dX2_change_90 : decode cX2_change 90 = .ok (.goto 3, 3) := by decide +kernel
theorem dX2_change_93 : decode cX2_change 93 = .ok (.return_, 1) := by decide +kernel
theorem dX2_copyFrom_0 : decode cX2_copyFrom 0 = .ok (.aload_n 0, 1) := by decide +kernel
theorem dX2_copyFrom_1 : decode cX2_copyFrom 1 = .ok (.aload_n 1, 1) := by decide +kernel
theorem dX2_copyFrom_2 : decode cX2_copyFrom 2 = .ok (.getfield 9, 3) := by decide +kernel
theorem dX2_copyFrom_5 : decode cX2_copyFrom 5 = .ok (.putfield 9, 3) := by decide +kernel
theorem dX2_copyFrom_8 : decode cX2_copyFrom 8 = .ok (.aload_n 0, 1) := by decide +kernel
theorem dX2_copyFrom_9 : decode cX2_copyFrom 9 = .ok (.aload_n 1, 1) := by decide +kernel
theorem dX2_copyFrom_10 : decode cX2_copyFrom 10 = .ok (.getfield 15, 3) := by decide +kernel
theorem dX2_copyFrom_13 : decode cX2_copyFrom 13 = .ok (.putfield 15, 3) := by decide +kernel
theorem dX2_copyFrom_16 : decode cX2_copyFrom 16 = .ok (.aload_n 0, 1) := by decide +kernel
theorem dX2_copyFrom_17 : decode cX2_copyFrom 17 = .ok (.getfield 21, 3) := by decide +kernel
theorem dX2_copyFrom_20 : decode cX2_copyFrom 20 = .ok (.aload_n 1, 1) := by decide +kernel
theorem dX2_copyFrom_21 : decode cX2_copyFrom 21 = .ok (.getfield 21, 3) := by decide +kernel
theorem dX2_copyFrom_24 : decode cX2_copyFrom 24 = .ok (.invokevirtual 37, 3) := by decide +kernel
theorem dX2_copyFrom_27 : decode cX2_copyFrom 27 = .ok (.aload_n 0, 1) := by decide +kernel
theorem dX2_copyFrom_28 : decode cX2_copyFrom 28 = .ok (.getfield 25, 3) := by decide +kernel
theorem dX2_copyFrom_31 : decode cX2_copyFrom 31 = .ok (.aload_n 1, 1) := by decide +kernel
theorem dX2_copyFrom_32 : decode cX2_copyFrom 32 = .ok (.getfield 25, 3) := by decide +kernel
theorem dX2_copyFrom_35 : decode cX2_copyFrom 35 = .ok (.invokevirtual 37, 3) := by decide +kernel
theorem dX2_copyFrom_38 : decode cX2_copyFrom 38 = .ok (.aload_n 0, 1) := by decide +kernel
theorem dX2_copyFrom_39 : decode cX2_copyFrom 39 = .ok (.getfield 28, 3) := by decide +kernel
theorem dX2_copyFrom_42 : decode cX2_copyFrom 42 = .ok (.aload_n 1, 1) := by decide +kernel
theorem dX2_copyFrom_43 : decode cX2_copyFrom 43 = .ok (.getfield 28, 3) := by decide +kernel
theorem dX2_copyFrom_46 : decode cX2_copyFrom 46 = .ok (.invokevirtual 37, 3) := by decide +kernel
theorem dX2_copyFrom_49 : decode cX2_copyFrom 49 = .ok (.return_, 1) := by decide +kernel
theorem dX3_init_0 : decode cX3_init 0 = .ok (.aload_n 0, 1) := by decide +kernel
theorem dX3_init_1 : decode cX3_init 1 = .ok (.invokespecial 3, 3) := by decide +kernel
theorem dX3_init_4 : decode cX3_init 4 = .ok (.aload_n 0, 1) := by decide +kernel
theorem dX3_init_5 : decode cX3_init 5 = .ok (.bipush 8, 2) := by decide +kernel
theorem dX3_init_7 : decode cX3_init 7 = .ok (.newarray .int, 2) := by decide +kernel
theorem dX3_init_9 : decode cX3_init 9 = .ok (.putfield 11, 3) := by decide +kernel
theorem dX3_init_12 : decode cX3_init 12 = .ok (.aload_n 0, 1) := by decide +kernel
theorem dX3_init_13 : decode cX3_init 13 = .ok (.bipush 8, 2) := by decide +kernel
theorem dX3_init_15 : decode cX3_init 15 = .ok (.newarray .int, 2) := by decide +kernel
theorem dX3_init_17 : decode cX3_init 17 = .ok (.putfield 15, 3) := by decide +kernel
theorem dX3_init_20 : decode cX3_init 20 = .ok (.aload_n 0, 1) := by decide +kernel
theorem dX3_init_21 : decode cX3_init 21 = .ok (.iconst 0, 1) := by decide +kernel
theorem dX3_init_22 : decode cX3_init 22 = .ok (.putfield 18, 3) := by decide +kernel
theorem dX3_init_25 : decode cX3_init 25 = .ok (.return_, 1) := by decide +kernel
theorem dX3_empty_0 : decode cX3_empty 0 = .ok (.aload_n 0, 1) := by decide +kernel
theorem dX3_empty_1 : decode cX3_empty 1 = .ok (.iconst 0, 1) := by decide +kernel
theorem dX3_empty_2 : decode cX3_empty 2 = .ok (.putfield 18, 3) := by decide +kernel
theorem dX3_empty_5 : decode cX3_empty 5 = .ok (.iconst 0, 1) := by decide +kernel
theorem dX3_empty_6 : decode cX3_empty 6 = .ok (.ireturn, 1) := by decide +kernel
theorem dX3_append_0 : decode cX3_append 0 = .ok (.aload_n 0, 1) := by decide +kernel
theorem dX3_append_1 : decode cX3_append 1 = .ok (.getfield 18, 3) := by decide +kernel
theorem dX3_append_4 : decode cX3_append 4 = .ok (.iload_n 3, 1) := by decide +kernel
theorem dX3_append_5 : decode cX3_append 5 = .ok (.if_icmp .ge 12, 3) := by decide +kernel
theorem dX3_append_8 : decode cX3_append 8 = .ok (.aload_n 0, 1) := by decide +kernel
theorem dX3_append_9 : decode cX3_append 9 = .ok (.getfield 18, 3) := by decide +kernel
theorem dX3_append_12 : decode cX3_append 12 = .ok (.bipush 8, 2) := by decide +kernel
theorem dX3_append_14 : decode cX3_append 14 = .ok (.if_icmp .lt 6, 3) := by decide +kernel
theorem dX3_append_17 : decode cX3_append 17 = .ok (.bipush (-4), 2) := by decide +kernel
theorem dX3_append_19 : decode cX3_append 19 = .ok (.ireturn, 1) := by decide +kernel
theorem dX3_append_20 : decode cX3_append 20 = .ok (.aload_n 0, 1) := by decide +kernel
theorem dX3_append_21 : decode cX3_append 21 = .ok (.getfield 11, 3) := by decide +kernel
theorem dX3_append_24 : decode cX3_append 24 = .ok (.aload_n 0, 1) := by decide +kernel
theorem dX3_append_25 : decode cX3_append 25 = .ok (.getfield 18, 3) := by decide +kernel
theorem dX3_append_28 : decode cX3_append 28 = .ok (.iload_n 1, 1) := by decide +kernel
theorem dX3_append_29 : decode cX3_append 29 = .ok (.iastore, 1) := by decide +kernel
theorem dX3_append_30 : decode cX3_append 30 = .ok (.aload_n 0, 1) := by decide +kernel
theorem dX3_append_31 : decode cX3_append 31 = .ok (.getfield 15, 3) := by decide +kernel
theorem dX3_append_34 : decode cX3_append 34 = .ok (.aload_n 0, 1) := by decide +kernel
theorem dX3_append_35 : decode cX3_append 35 = .ok (.getfield 18, 3) := by decide +kernel
theorem dX3_append_38 : decode cX3_append 38 = .ok (.iload_n 2, 1) := by decide +kernel
theorem dX3_append_39 : decode cX3_append 39 = .ok (.iastore, 1) := by decide +kernel
theorem dX3_append_40 : decode cX3_append 40 = .ok (.aload_n 0, 1) := by decide +kernel
theorem dX3_append_41 : decode cX3_append 41 = .ok (.dup, 1) := by decide +kernel
theorem dX3_append_42 : decode cX3_append 42 = .ok (.getfield 18, 3) := by decide +kernel
theorem dX3_append_45 : decode cX3_append 45 = .ok (.iconst 1, 1) := by decide +kernel
theorem dX3_append_46 : decode cX3_append 46 = .ok (.iadd, 1) := by decide +kernel
theorem dX3_append_47 : decode cX3_append 47 = .ok (.putfield 18, 3) := by decide +kernel
theorem dX3_append_50 : decode cX3_append 50 = .ok (.aload_n 0, 1) := by decide +kernel
theorem dX3_append_51 : decode cX3_append 51 = .ok (.getfield 18, 3) := by decide +kernel
theorem dX3_append_54 : decode cX3_append 54 = .ok (.ireturn, 1) := by decide +kernel
theorem dX3_whatAt_0 : decode cX3_whatAt 0 = .ok (.iload_n 1, 1) := by decide +kernel
theorem dX3_whatAt_1 : decode cX3_whatAt 1 = .ok (.ifCond .lt 18, 3) := by decide +kernel
theorem dX3_whatAt_4 : decode cX3_whatAt 4 = .ok (.iload_n 1, 1) := by decide +kernel
theorem dX3_whatAt_5 : decode cX3_whatAt 5 = .ok (.bipush 8, 2) := by decide +kernel
theorem dX3_whatAt_7 : decode cX3_whatAt 7 = .ok (.if_icmp .ge 12, 3) := by decide +kernel
theorem dX3_whatAt_10 : decode cX3_whatAt 10 = .ok (.aload_n 0, 1) := by decide +kernel
theorem dX3_whatAt_11 : decode cX3_whatAt 11 = .ok (.getfield 11, 3) := by decide +kernel
theorem dX3_whatAt_14 : decode cX3_whatAt 14 = .ok (.iload_n 1, 1) := by decide +kernel
theorem dX3_whatAt_15 : decode cX3_whatAt 15 = .ok (.iaload, 1) := by decide +kernel
theorem dX3_whatAt_16 : decode cX3_whatAt 16 = .ok (.goto 4, 3) := by decide +kernel
theorem dX3_whatAt_19 : decode cX3_whatAt 19 = .ok (.iconst 0, 1) := by decide +kernel
theorem dX3_whatAt_20 : decode cX3_whatAt 20 = .ok (.ireturn, 1) := by decide +kernel
theorem dX3_numberAt_0 : decode cX3_numberAt 0 = .ok (.iload_n 1, 1) := by decide +kernel
theorem dX3_numberAt_1 : decode cX3_numberAt 1 = .ok (.ifCond .lt 18, 3) := by decide +kernel
theorem dX3_numberAt_4 : decode cX3_numberAt 4 = .ok (.iload_n 1, 1) := by decide +kernel
theorem dX3_numberAt_5 : decode cX3_numberAt 5 = .ok (.bipush 8, 2) := by decide +kernel
theorem dX3_numberAt_7 : decode cX3_numberAt 7 = .ok (.if_icmp .ge 12, 3) := by decide +kernel
theorem dX3_numberAt_10 : decode cX3_numberAt 10 = .ok (.aload_n 0, 1) := by decide +kernel
theorem dX3_numberAt_11 : decode cX3_numberAt 11 = .ok (.getfield 15, 3) := by decide +kernel
theorem dX3_numberAt_14 : decode cX3_numberAt 14 = .ok (.iload_n 1, 1) := by decide +kernel
theorem dX3_numberAt_15 : decode cX3_numberAt 15 = .ok (.iaload, 1) := by decide +kernel
theorem dX3_numberAt_16 : decode cX3_numberAt 16 = .ok (.goto 4, 3) := by decide +kernel
theorem dX3_numberAt_19 : decode cX3_numberAt 19 = .ok (.iconst 0, 1) := by decide +kernel
theorem dX3_numberAt_20 : decode cX3_numberAt 20 = .ok (.ireturn, 1) := by decide +kernel
theorem dX3_copyFrom_0 : decode cX3_copyFrom 0 = .ok (.aload_n 1, 1) := by decide +kernel
theorem dX3_copyFrom_1 : decode cX3_copyFrom 1 = .ok (.getfield 11, 3) := by decide +kernel
theorem dX3_copyFrom_4 : decode cX3_copyFrom 4 = .ok (.iconst 0, 1) := by decide +kernel
theorem dX3_copyFrom_5 : decode cX3_copyFrom 5 = .ok (.aload_n 0, 1) := by decide +kernel
theorem dX3_copyFrom_6 : decode cX3_copyFrom 6 = .ok (.getfield 11, 3) := by decide +kernel
theorem dX3_copyFrom_9 : decode cX3_copyFrom 9 = .ok (.iconst 0, 1) := by decide +kernel
theorem dX3_copyFrom_10 : decode cX3_copyFrom 10 = .ok (.bipush 8, 2) := by decide +kernel
theorem dX3_copyFrom_12 : decode cX3_copyFrom 12 = .ok (.invokestatic 22, 3) := by decide +kernel
theorem dX3_copyFrom_15 : decode cX3_copyFrom 15 = .ok (.aload_n 1, 1) := by decide +kernel
theorem dX3_copyFrom_16 : decode cX3_copyFrom 16 = .ok (.getfield 15, 3) := by decide +kernel
theorem dX3_copyFrom_19 : decode cX3_copyFrom 19 = .ok (.iconst 0, 1) := by decide +kernel
theorem dX3_copyFrom_20 : decode cX3_copyFrom 20 = .ok (.aload_n 0, 1) := by decide +kernel
theorem dX3_copyFrom_21 : decode cX3_copyFrom 21 = .ok (.getfield 15, 3) := by decide +kernel
theorem dX3_copyFrom_24 : decode cX3_copyFrom 24 = .ok (.iconst 0, 1) := by decide +kernel
theorem dX3_copyFrom_25 : decode cX3_copyFrom 25 = .ok (.bipush 8, 2) := by decide +kernel
theorem dX3_copyFrom_27 : decode cX3_copyFrom 27 = .ok (.invokestatic 22, 3) := by decide +kernel
theorem dX3_copyFrom_30 : decode cX3_copyFrom 30 = .ok (.aload_n 0, 1) := by decide +kernel
theorem dX3_copyFrom_31 : decode cX3_copyFrom 31 = .ok (.aload_n 1, 1) := by decide +kernel
theorem dX3_copyFrom_32 : decode cX3_copyFrom 32 = .ok (.getfield 18, 3) := by decide +kernel
theorem dX3_copyFrom_35 : decode cX3_copyFrom 35 = .ok (.putfield 18, 3) := by decide +kernel
theorem dX3_copyFrom_38 : decode cX3_copyFrom 38 = .ok (.return_, 1) := by decide +kernel
theorem dX4_init_0 : decode cX4_init 0 = .ok (.aload_n 0, 1) := by decide +kernel
theorem dX4_init_1 : decode cX4_init 1 = .ok (.invokespecial 3, 3) := by decide +kernel
theorem dX4_init_4 : decode cX4_init 4 = .ok (.aload_n 0, 1) := by decide +kernel
theorem dX4_init_5 : decode cX4_init 5 = .ok (.iconst 0, 1) := by decide +kernel
theorem dX4_init_6 : decode cX4_init 6 = .ok (.putfield 9, 3) := by decide +kernel
theorem dX4_init_9 : decode cX4_init 9 = .ok (.aload_n 0, 1) := by decide +kernel
theorem dX4_init_10 : decode cX4_init 10 = .ok (.bipush (-5), 2) := by decide +kernel
theorem dX4_init_12 : decode cX4_init 12 = .ok (.putfield 15, 3) := by decide +kernel
theorem dX4_init_15 : decode cX4_init 15 = .ok (.aload_n 0, 1) := by decide +kernel
theorem dX4_init_16 : decode cX4_init 16 = .ok (.sipush 171, 3) := by decide +kernel
theorem dX4_init_19 : decode cX4_init 19 = .ok (.newarray .int, 2) := by decide +kernel
theorem dX4_init_21 : decode cX4_init 21 = .ok (.putfield 18, 3) := by decide +kernel
theorem dX4_init_24 : decode cX4_init 24 = .ok (.aload_n 0, 1) := by decide +kernel
theorem dX4_init_25 : decode cX4_init 25 = .ok (.sipush 171, 3) := by decide +kernel
theorem dX4_init_28 : decode cX4_init 28 = .ok (.newarray .int, 2) := by decide +kernel
theorem dX4_init_30 : decode cX4_init 30 = .ok (.putfield 22, 3) := by decide +kernel
theorem dX4_init_33 : decode cX4_init 33 = .ok (.aload_n 0, 1) := by decide +kernel
theorem dX4_init_34 : decode cX4_init 34 = .ok (.sipush 256, 3) := by decide +kernel
theorem dX4_init_37 : decode cX4_init 37 = .ok (.newarray .int, 2) := by decide +kernel
theorem dX4_init_39 : decode cX4_init 39 = .ok (.putfield 25, 3) := by decide +kernel
theorem dX4_init_42 : decode cX4_init 42 = .ok (.aload_n 0, 1) := by decide +kernel
theorem dX4_init_43 : decode cX4_init 43 = .ok (.sipush 768, 3) := by decide +kernel
theorem dX4_init_46 : decode cX4_init 46 = .ok (.newarray .int, 2) := by decide +kernel
theorem dX4_init_48 : decode cX4_init 48 = .ok (.putfield 28, 3) := by decide +kernel
theorem dX4_init_51 : decode cX4_init 51 = .ok (.return_, 1) := by decide +kernel
theorem dX4_cornerWeight_0 : decode cX4_cornerWeight 0 = .ok (.iload_n 1, 1) := by decide +kernel
theorem dX4_cornerWeight_1 : decode cX4_cornerWeight 1 = .ok (.iload_n 0, 1) := by decide +kernel
theorem dX4_cornerWeight_2 : decode cX4_cornerWeight 2 = .ok (.iconst 1, 1) := by decide +kernel
theorem dX4_cornerWeight_3 : decode cX4_cornerWeight 3 = .ok (.iand, 1) := by decide +kernel
theorem dX4_cornerWeight_4 : decode cX4_cornerWeight 4 = .ok (.imul, 1) := by decide +kernel
theorem dX4_cornerWeight_5 : decode cX4_cornerWeight 5 = .ok (.iload_n 2, 1) := by decide +kernel
theorem dX4_cornerWeight_6 : decode cX4_cornerWeight 6 = .ok (.iload_n 0, 1) := by decide +kernel
theorem dX4_cornerWeight_7 : decode cX4_cornerWeight 7 = .ok (.iconst 1, 1) := by decide +kernel
theorem dX4_cornerWeight_8 : decode cX4_cornerWeight 8 = .ok (.ishr, 1) := by decide +kernel
theorem dX4_cornerWeight_9 : decode cX4_cornerWeight 9 = .ok (.iconst 1, 1) := by decide +kernel
theorem dX4_cornerWeight_10 : decode cX4_cornerWeight 10 = .ok (.iand, 1) := by decide +kernel
theorem dX4_cornerWeight_11 : decode cX4_cornerWeight 11 = .ok (.imul, 1) := by decide +kernel
theorem dX4_cornerWeight_12 : decode cX4_cornerWeight 12 = .ok (.iadd, 1) := by decide +kernel
theorem dX4_cornerWeight_13 : decode cX4_cornerWeight 13 = .ok (.iload_n 3, 1) := by decide +kernel
theorem dX4_cornerWeight_14 : decode cX4_cornerWeight 14 = .ok (.iload_n 0, 1) := by decide +kernel
theorem dX4_cornerWeight_15 : decode cX4_cornerWeight 15 = .ok (.iconst 2, 1) := by decide +kernel
theorem dX4_cornerWeight_16 : decode cX4_cornerWeight 16 = .ok (.ishr, 1) := by decide +kernel
theorem dX4_cornerWeight_17 : decode cX4_cornerWeight 17 = .ok (.iconst 1, 1) := by decide +kernel
theorem dX4_cornerWeight_18 : decode cX4_cornerWeight 18 = .ok (.iand, 1) := by decide +kernel
theorem dX4_cornerWeight_19 : decode cX4_cornerWeight 19 = .ok (.imul, 1) := by decide +kernel
theorem dX4_cornerWeight_20 : decode cX4_cornerWeight 20 = .ok (.iadd, 1) := by decide +kernel
theorem dX4_cornerWeight_21 : decode cX4_cornerWeight 21 = .ok (.ireturn, 1) := by decide +kernel
theorem dX4_mostBy_0 : decode cX4_mostBy 0 = .ok (.ldc 33, 2) := by decide +kernel
theorem dX4_mostBy_2 : decode cX4_mostBy 2 = .ok (.istore 4, 2) := by decide +kernel
theorem dX4_mostBy_4 : decode cX4_mostBy 4 = .ok (.iconst 0, 1) := by decide +kernel
theorem dX4_mostBy_5 : decode cX4_mostBy 5 = .ok (.istore 5, 2) := by decide +kernel
theorem dX4_mostBy_7 : decode cX4_mostBy 7 = .ok (.iload 5, 2) := by decide +kernel
theorem dX4_mostBy_9 : decode cX4_mostBy 9 = .ok (.bipush 8, 2) := by decide +kernel
theorem dX4_mostBy_11 : decode cX4_mostBy 11 = .ok (.if_icmp .ge 34, 3) := by decide +kernel
theorem dX4_mostBy_14 : decode cX4_mostBy 14 = .ok (.iload_n 0, 1) := by decide +kernel
theorem dX4_mostBy_15 : decode cX4_mostBy 15 = .ok (.iload 5, 2) := by decide +kernel
theorem dX4_mostBy_17 : decode cX4_mostBy 17 = .ok (.invokestatic 34, 3) := by decide +kernel
theorem dX4_mostBy_20 : decode cX4_mostBy 20 = .ok (.iconst 1, 1) := by decide +kernel
theorem dX4_mostBy_21 : decode cX4_mostBy 21 = .ok (.if_icmp .ne 18, 3) := by decide +kernel
theorem dX4_mostBy_24 : decode cX4_mostBy 24 = .ok (.iload 4, 2) := by decide +kernel
theorem dX4_mostBy_26 : decode cX4_mostBy 26 = .ok (.iload 5, 2) := by decide +kernel
theorem dX4_mostBy_28 : decode cX4_mostBy 28 = .ok (.iload_n 1, 1) := by decide +kernel
theorem dX4_mostBy_29 : decode cX4_mostBy 29 = .ok (.iload_n 2, 1) := by decide +kernel
theorem dX4_mostBy_30 : decode cX4_mostBy 30 = .ok (.iload_n 3, 1) := by decide +kernel
theorem dX4_mostBy_31 : decode cX4_mostBy 31 = .ok (.invokestatic 38, 3) := by decide +kernel
theorem dX4_mostBy_34 : decode cX4_mostBy 34 = .ok (.invokestatic 42, 3) := by decide +kernel
theorem dX4_mostBy_37 : decode cX4_mostBy 37 = .ok (.istore 4, 2) := by decide +kernel
theorem dX4_mostBy_39 : decode cX4_mostBy 39 = .ok (.iinc 5 1, 3) := by decide +kernel
theorem dX4_mostBy_42 : decode cX4_mostBy 42 = .ok (.goto (-35), 3) := by decide +kernel
theorem dX4_mostBy_45 : decode cX4_mostBy 45 = .ok (.iload 4, 2) := by decide +kernel
theorem dX4_mostBy_47 : decode cX4_mostBy 47 = .ok (.ireturn, 1) := by decide +kernel
theorem dX4_thoseThatWeigh_0 : decode cX4_thoseThatWeigh 0 = .ok (.iconst 0, 1) := by decide +kernel
theorem dX4_thoseThatWeigh_1 : decode cX4_thoseThatWeigh 1 = .ok (.istore 5, 2) := by decide +kernel
theorem dX4_thoseThatWeigh_3 : decode cX4_thoseThatWeigh 3 = .ok (.iconst 0, 1) := by decide +kernel
theorem dX4_thoseThatWeigh_4 : decode cX4_thoseThatWeigh 4 = .ok (.istore 6, 2) := by decide +kernel
theorem dX4_thoseThatWeigh_6 : decode cX4_thoseThatWeigh 6 = .ok (.iload 6, 2) := by decide +kernel
theorem dX4_thoseThatWeigh_8 : decode cX4_thoseThatWeigh 8 = .ok (.bipush 8, 2) := by decide +kernel
theorem dX4_thoseThatWeigh_10 : decode cX4_thoseThatWeigh 10 = .ok (.if_icmp .ge 41, 3) := by decide +kernel
theorem dX4_thoseThatWeigh_13 : decode cX4_thoseThatWeigh 13 = .ok (.iload_n 0, 1) := by decide +kernel
theorem dX4_thoseThatWeigh_14 : decode cX4_thoseThatWeigh 14 = .ok (.iload 6, 2) := by decide +kernel
theorem dX4_thoseThatWeigh_16 : decode cX4_thoseThatWeigh 16 = .ok (.invokestatic 34, 3) := by decide +kernel
theorem dX4_thoseThatWeigh_19 : decode cX4_thoseThatWeigh 19 = .ok (.iconst 1, 1) := by decide +kernel
theorem dX4_thoseThatWeigh_20 : decode cX4_thoseThatWeigh 20 = .ok (.if_icmp .ne 25, 3) := by decide +kernel
theorem dX4_thoseThatWeigh_23 : decode cX4_thoseThatWeigh 23 = .ok (.iload 6, 2) := by decide +kernel
theorem dX4_thoseThatWeigh_25 : decode cX4_thoseThatWeigh 25 = .ok (.iload_n 1, 1) := by decide +kernel
theorem dX4_thoseThatWeigh_26 : decode cX4_thoseThatWeigh 26 = .ok (.iload_n 2, 1) := by decide +kernel
theorem dX4_thoseThatWeigh_27 : decode cX4_thoseThatWeigh 27 = .ok (.iload_n 3, 1) := by decide +kernel
theorem dX4_thoseThatWeigh_28 : decode cX4_thoseThatWeigh 28 = .ok (.invokestatic 38, 3) := by decide +kernel
theorem dX4_thoseThatWeigh_31 : decode cX4_thoseThatWeigh 31 = .ok (.iload 4, 2) := by decide +kernel
theorem dX4_thoseThatWeigh_33 : decode cX4_thoseThatWeigh 33 = .ok (.if_icmp .ne 12, 3) := by decide +kernel
theorem dX4_thoseThatWeigh_36 : decode cX4_thoseThatWeigh 36 = .ok (.iload 5, 2) := by decide +kernel
theorem dX4_thoseThatWeigh_38 : decode cX4_thoseThatWeigh 38 = .ok (.iconst 1, 1) := by decide +kernel
theorem dX4_thoseThatWeigh_39 : decode cX4_thoseThatWeigh 39 = .ok (.iload 6, 2) := by decide +kernel
theorem dX4_thoseThatWeigh_41 : decode cX4_thoseThatWeigh 41 = .ok (.ishl, 1) := by decide +kernel
theorem dX4_thoseThatWeigh_42 : decode cX4_thoseThatWeigh 42 = .ok (.ior, 1) := by decide +kernel
theorem dX4_thoseThatWeigh_43 : decode cX4_thoseThatWeigh 43 = .ok (.istore 5, 2) := by decide +kernel
theorem dX4_thoseThatWeigh_45 : decode cX4_thoseThatWeigh 45 = .ok (.iinc 6 1, 3) := by decide +kernel
theorem dX4_thoseThatWeigh_48 : decode cX4_thoseThatWeigh 48 = .ok (.goto (-42), 3) := by decide +kernel
theorem dX4_thoseThatWeigh_51 : decode cX4_thoseThatWeigh 51 = .ok (.iload 5, 2) := by decide +kernel
theorem dX4_thoseThatWeigh_53 : decode cX4_thoseThatWeigh 53 = .ok (.ireturn, 1) := by decide +kernel
theorem dX4_measure_0 : decode cX4_measure 0 = .ok (.iload_n 1, 1) := by decide +kernel
theorem dX4_measure_1 : decode cX4_measure 1 = .ok (.aload_n 0, 1) := by decide +kernel
theorem dX4_measure_2 : decode cX4_measure 2 = .ok (.getfield 9, 3) := by decide +kernel
theorem dX4_measure_5 : decode cX4_measure 5 = .ok (.if_icmp .ne 4, 3) := by decide +kernel
theorem dX4_measure_8 : decode cX4_measure 8 = .ok (.return_, 1) := by decide +kernel
theorem dX4_measure_9 : decode cX4_measure 9 = .ok (.aload_n 0, 1) := by decide +kernel
theorem dX4_measure_10 : decode cX4_measure 10 = .ok (.iload_n 1, 1) := by decide +kernel
theorem dX4_measure_11 : decode cX4_measure 11 = .ok (.putfield 9, 3) := by decide +kernel
theorem dX4_measure_14 : decode cX4_measure 14 = .ok (.aload_n 0, 1) := by decide +kernel
theorem dX4_measure_15 : decode cX4_measure 15 = .ok (.bipush (-5), 2) := by decide +kernel
theorem dX4_measure_17 : decode cX4_measure 17 = .ok (.putfield 15, 3) := by decide +kernel
theorem dX4_measure_20 : decode cX4_measure 20 = .ok (.iconst 0, 1) := by decide +kernel
theorem dX4_measure_21 : decode cX4_measure 21 = .ok (.istore_n 2, 1) := by decide +kernel
theorem dX4_measure_22 : decode cX4_measure 22 = .ok (.iload_n 2, 1) := by decide +kernel
theorem dX4_measure_23 : decode cX4_measure 23 = .ok (.sipush 256, 3) := by decide +kernel
theorem dX4_measure_26 : decode cX4_measure 26 = .ok (.if_icmp .ge 16, 3) := by decide +kernel
theorem dX4_measure_29 : decode cX4_measure 29 = .ok (.aload_n 0, 1) := by decide +kernel
theorem dX4_measure_30 : decode cX4_measure 30 = .ok (.getfield 25, 3) := by decide +kernel
theorem dX4_measure_33 : decode cX4_measure 33 = .ok (.iload_n 2, 1) := by decide +kernel
theorem dX4_measure_34 : decode cX4_measure 34 = .ok (.iconst 0, 1) := by decide +kernel
theorem dX4_measure_35 : decode cX4_measure 35 = .ok (.iastore, 1) := by decide +kernel
theorem dX4_measure_36 : decode cX4_measure 36 = .ok (.iinc 2 1, 3) := by decide +kernel
theorem dX4_measure_39 : decode cX4_measure 39 = .ok (.goto (-17), 3) := by decide +kernel
theorem dX4_measure_42 : decode cX4_measure 42 = .ok (.iload_n 1, 1) := by decide +kernel
theorem dX4_measure_43 : decode cX4_measure 43 = .ok (.ifCond .ne 4, 3) := by decide +kernel
theorem dX4_measure_46 : decode cX4_measure 46 = .ok (.return_, 1) := by decide +kernel
theorem dX4_measure_47 : decode cX4_measure 47 = .ok (.aload_n 0, 1) := by decide +kernel
theorem dX4_measure_48 : decode cX4_measure 48 = .ok (.ldc 47, 2) := by decide +kernel
theorem dX4_measure_50 : decode cX4_measure 50 = .ok (.putfield 15, 3) := by decide +kernel
theorem dX4_measure_53 : decode cX4_measure 53 = .ok (.iconst 0, 1) := by decide +kernel
theorem dX4_measure_54 : decode cX4_measure 54 = .ok (.istore_n 2, 1) := by decide +kernel
theorem dX4_measure_55 : decode cX4_measure 55 = .ok (.iload_n 2, 1) := by decide +kernel
theorem dX4_measure_56 : decode cX4_measure 56 = .ok (.sipush 171, 3) := by decide +kernel
theorem dX4_measure_59 : decode cX4_measure 59 = .ok (.if_icmp .ge 38, 3) := by decide +kernel
theorem dX4_measure_62 : decode cX4_measure 62 = .ok (.aload_n 0, 1) := by decide +kernel
theorem dX4_measure_63 : decode cX4_measure 63 = .ok (.iload_n 2, 1) := by decide +kernel
theorem dX4_measure_64 : decode cX4_measure 64 = .ok (.invokevirtual 48, 3) := by decide +kernel
theorem dX4_measure_67 : decode cX4_measure 67 = .ok (.aload_n 0, 1) := by decide +kernel
theorem dX4_measure_68 : decode cX4_measure 68 = .ok (.aload_n 0, 1) := by decide +kernel
theorem dX4_measure_69 : decode cX4_measure 69 = .ok (.getfield 15, 3) := by decide +kernel
theorem dX4_measure_72 : decode cX4_measure 72 = .ok (.aload_n 0, 1) := by decide +kernel
theorem dX4_measure_73 : decode cX4_measure 73 = .ok (.getfield 18, 3) := by decide +kernel
theorem dX4_measure_76 : decode cX4_measure 76 = .ok (.iload_n 2, 1) := by decide +kernel
theorem dX4_measure_77 : decode cX4_measure 77 = .ok (.iaload, 1) := by decide +kernel
theorem dX4_measure_78 : decode cX4_measure 78 = .ok (.aload_n 0, 1) := by decide +kernel
theorem dX4_measure_79 : decode cX4_measure 79 = .ok (.getfield 22, 3) := by decide +kernel
theorem dX4_measure_82 : decode cX4_measure 82 = .ok (.iload_n 2, 1) := by decide +kernel
theorem dX4_measure_83 : decode cX4_measure 83 = .ok (.iaload, 1) := by decide +kernel
theorem dX4_measure_84 : decode cX4_measure 84 = .ok (.isub, 1) := by decide +kernel
theorem dX4_measure_85 : decode cX4_measure 85 = .ok (.invokestatic 52, 3) := by decide +kernel
theorem dX4_measure_88 : decode cX4_measure 88 = .ok (.putfield 15, 3) := by decide +kernel
theorem dX4_measure_91 : decode cX4_measure 91 = .ok (.iinc 2 1, 3) := by decide +kernel
theorem dX4_measure_94 : decode cX4_measure 94 = .ok (.goto (-39), 3) := by decide +kernel
theorem dX4_measure_97 : decode cX4_measure 97 = .ok (.return_, 1) := by decide +kernel
theorem dX4_measureBy_0 : decode cX4_measureBy 0 = .ok (.iload_n 1, 1) := by decide +kernel
theorem dX4_measureBy_1 : decode cX4_measureBy 1 = .ok (.ifCond .lt 10, 3) := by decide +kernel
theorem dX4_measureBy_4 : decode cX4_measureBy 4 = .ok (.iload_n 1, 1) := by decide +kernel
theorem dX4_measureBy_5 : decode cX4_measureBy 5 = .ok (.sipush 171, 3) := by decide +kernel
theorem dX4_measureBy_8 : decode cX4_measureBy 8 = .ok (.if_icmp .lt 4, 3) := by decide +kernel
theorem dX4_measureBy_11 : decode cX4_measureBy 11 = .ok (.return_, 1) := by decide +kernel
theorem dX4_measureBy_12 : decode cX4_measureBy 12 = .ok (.ldc 33, 2) := by decide +kernel
theorem dX4_measureBy_14 : decode cX4_measureBy 14 = .ok (.istore_n 2, 1) := by decide +kernel
theorem dX4_measureBy_15 : decode cX4_measureBy 15 = .ok (.ldc 47, 2) := by decide +kernel
theorem dX4_measureBy_17 : decode cX4_measureBy 17 = .ok (.istore_n 3, 1) := by decide +kernel
theorem dX4_measureBy_18 : decode cX4_measureBy 18 = .ok (.iconst 0, 1) := by decide +kernel
theorem dX4_measureBy_19 : decode cX4_measureBy 19 = .ok (.istore 4, 2) := by decide +kernel
theorem dX4_measureBy_21 : decode cX4_measureBy 21 = .ok (.iconst 0, 1) := by decide +kernel
theorem dX4_measureBy_22 : decode cX4_measureBy 22 = .ok (.istore 5, 2) := by decide +kernel
theorem dX4_measureBy_24 : decode cX4_measureBy 24 = .ok (.iconst 0, 1) := by decide +kernel
theorem dX4_measureBy_25 : decode cX4_measureBy 25 = .ok (.istore 6, 2) := by decide +kernel
theorem dX4_measureBy_27 : decode cX4_measureBy 27 = .ok (.iload 6, 2) := by decide +kernel
theorem dX4_measureBy_29 : decode cX4_measureBy 29 = .ok (.bipush 8, 2) := by decide +kernel
theorem dX4_measureBy_31 : decode cX4_measureBy 31 = .ok (.if_icmp .ge 128, 3) := by decide +kernel
theorem dX4_measureBy_34 : decode cX4_measureBy 34 = .ok (.iconst 1, 1) := by decide +kernel
theorem dX4_measureBy_35 : decode cX4_measureBy 35 = .ok (.iload 6, 2) := by decide +kernel
theorem dX4_measureBy_37 : decode cX4_measureBy 37 = .ok (.ishl, 1) := by decide +kernel
theorem dX4_measureBy_38 : decode cX4_measureBy 38 = .ok (.aload_n 0, 1) := by decide +kernel
theorem dX4_measureBy_39 : decode cX4_measureBy 39 = .ok (.getfield 9, 3) := by decide +kernel
theorem dX4_measureBy_42 : decode cX4_measureBy 42 = .ok (.iand, 1) := by decide +kernel
theorem dX4_measureBy_43 : decode cX4_measureBy 43 = .ok (.istore 7, 2) := by decide +kernel
theorem dX4_measureBy_45 : decode cX4_measureBy 45 = .ok (.iload_n 1, 1) := by decide +kernel
theorem dX4_measureBy_46 : decode cX4_measureBy 46 = .ok (.bipush 49, 2) := by decide +kernel
theorem dX4_measureBy_48 : decode cX4_measureBy 48 = .ok (.idiv, 1) := by decide +kernel
theorem dX4_measureBy_49 : decode cX4_measureBy 49 = .ok (.iconst 3, 1) := by decide +kernel
theorem dX4_measureBy_50 : decode cX4_measureBy 50 = .ok (.isub, 1) := by decide +kernel
theorem dX4_measureBy_51 : decode cX4_measureBy 51 = .ok (.iload 6, 2) := by decide +kernel
theorem dX4_measureBy_53 : decode cX4_measureBy 53 = .ok (.iconst 1, 1) := by decide +kernel
theorem dX4_measureBy_54 : decode cX4_measureBy 54 = .ok (.iand, 1) := by decide +kernel
theorem dX4_measureBy_55 : decode cX4_measureBy 55 = .ok (.imul, 1) := by decide +kernel
theorem dX4_measureBy_56 : decode cX4_measureBy 56 = .ok (.iload_n 1, 1) := by decide +kernel
theorem dX4_measureBy_57 : decode cX4_measureBy 57 = .ok (.bipush 7, 2) := by decide +kernel
theorem dX4_measureBy_59 : decode cX4_measureBy 59 = .ok (.idiv, 1) := by decide +kernel
theorem dX4_measureBy_60 : decode cX4_measureBy 60 = .ok (.bipush 7, 2) := by decide +kernel
theorem dX4_measureBy_62 : decode cX4_measureBy 62 = .ok (.irem, 1) := by decide +kernel
theorem dX4_measureBy_63 : decode cX4_measureBy 63 = .ok (.iconst 3, 1) := by decide +kernel
theorem dX4_measureBy_64 : decode cX4_measureBy 64 = .ok (.isub, 1) := by decide +kernel
theorem dX4_measureBy_65 : decode cX4_measureBy 65 = .ok (.iload 6, 2) := by decide +kernel
theorem dX4_measureBy_67 : decode cX4_measureBy 67 = .ok (.iconst 1, 1) := by decide +kernel
theorem dX4_measureBy_68 : decode cX4_measureBy 68 = .ok (.ishr, 1) := by decide +kernel
theorem dX4_measureBy_69 : decode cX4_measureBy 69 = .ok (.iconst 1, 1) := by decide +kernel
theorem dX4_measureBy_70 : decode cX4_measureBy 70 = .ok (.iand, 1) := by decide +kernel
theorem dX4_measureBy_71 : decode cX4_measureBy 71 = .ok (.imul, 1) := by decide +kernel
theorem dX4_measureBy_72 : decode cX4_measureBy 72 = .ok (.iadd, 1) := by decide +kernel
theorem dX4_measureBy_73 : decode cX4_measureBy 73 = .ok (.iload_n 1, 1) := by decide +kernel
theorem dX4_measureBy_74 : decode cX4_measureBy 74 = .ok (.bipush 7, 2) := by decide +kernel
theorem dX4_measureBy_76 : decode cX4_measureBy 76 = .ok (.irem, 1) := by decide +kernel
theorem dX4_measureBy_77 : decode cX4_measureBy 77 = .ok (.iconst 3, 1) := by decide +kernel
theorem dX4_measureBy_78 : decode cX4_measureBy 78 = .ok (.isub, 1) := by decide +kernel
theorem dX4_measureBy_79 : decode cX4_measureBy 79 = .ok (.iload 6, 2) := by decide +kernel
theorem dX4_measureBy_81 : decode cX4_measureBy 81 = .ok (.iconst 2, 1) := by decide +kernel
theorem dX4_measureBy_82 : decode cX4_measureBy 82 = .ok (.ishr, 1) := by decide +kernel
theorem dX4_measureBy_83 : decode cX4_measureBy 83 = .ok (.iconst 1, 1) := by decide +kernel
theorem dX4_measureBy_84 : decode cX4_measureBy 84 = .ok (.iand, 1) := by decide +kernel
theorem dX4_measureBy_85 : decode cX4_measureBy 85 = .ok (.imul, 1) := by decide +kernel
theorem dX4_measureBy_86 : decode cX4_measureBy 86 = .ok (.iadd, 1) := by decide +kernel
theorem dX4_measureBy_87 : decode cX4_measureBy 87 = .ok (.istore 8, 2) := by decide +kernel
theorem dX4_measureBy_89 : decode cX4_measureBy 89 = .ok (.iload 7, 2) := by decide +kernel
theorem dX4_measureBy_91 : decode cX4_measureBy 91 = .ok (.ifCond .eq 30, 3) := by decide +kernel
theorem dX4_measureBy_94 : decode cX4_measureBy 94 = .ok (.iload 8, 2) := by decide +kernel
theorem dX4_measureBy_96 : decode cX4_measureBy 96 = .ok (.iload_n 2, 1) := by decide +kernel
theorem dX4_measureBy_97 : decode cX4_measureBy 97 = .ok (.if_icmp .lt 24, 3) := by decide +kernel
theorem dX4_measureBy_100 : decode cX4_measureBy 100 = .ok (.iload 8, 2) := by decide +kernel
theorem dX4_measureBy_102 : decode cX4_measureBy 102 = .ok (.iload_n 2, 1) := by decide +kernel
theorem dX4_measureBy_103 : decode cX4_measureBy 103 = .ok (.if_icmp .le 8, 3) := by decide +kernel
theorem dX4_measureBy_106 : decode cX4_measureBy 106 = .ok (.iload 7, 2) := by decide +kernel
theorem dX4_measureBy_108 : decode cX4_measureBy 108 = .ok (.goto 8, 3) := by decide +kernel
theorem dX4_measureBy_111 : decode cX4_measureBy 111 = .ok (.iload 4, 2) := by decide +kernel
theorem dX4_measureBy_113 : decode cX4_measureBy 113 = .ok (.iload 7, 2) := by decide +kernel
theorem dX4_measureBy_115 : decode cX4_measureBy 115 = .ok (.ior, 1) := by decide +kernel
theorem dX4_measureBy_116 : decode cX4_measureBy 116 = .ok (.istore 4, 2) := by decide +kernel
theorem dX4_measureBy_118 : decode cX4_measureBy 118 = .ok (.iload 8, 2) := by decide +kernel
theorem dX4_measureBy_120 : decode cX4_measureBy 120 = .ok (.istore_n 2, 1) := by decide +kernel
theorem dX4_measureBy_121 : decode cX4_measureBy 121 = .ok (.iload 7, 2) := by decide +kernel
theorem dX4_measureBy_123 : decode cX4_measureBy 123 = .ok (.ifCond .eq 30, 3) := by decide +kernel
theorem dX4_measureBy_126 : decode cX4_measureBy 126 = .ok (.iload 8, 2) := by decide +kernel
theorem dX4_measureBy_128 : decode cX4_measureBy 128 = .ok (.iload_n 3, 1) := by decide +kernel
theorem dX4_measureBy_129 : decode cX4_measureBy 129 = .ok (.if_icmp .gt 24, 3) := by decide +kernel
theorem dX4_measureBy_132 : decode cX4_measureBy 132 = .ok (.iload 8, 2) := by decide +kernel
theorem dX4_measureBy_134 : decode cX4_measureBy 134 = .ok (.iload_n 3, 1) := by decide +kernel
theorem dX4_measureBy_135 : decode cX4_measureBy 135 = .ok (.if_icmp .ge 8, 3) := by decide +kernel
theorem dX4_measureBy_138 : decode cX4_measureBy 138 = .ok (.iload 7, 2) := by decide +kernel
theorem dX4_measureBy_140 : decode cX4_measureBy 140 = .ok (.goto 8, 3) := by decide +kernel
theorem dX4_measureBy_143 : decode cX4_measureBy 143 = .ok (.iload 5, 2) := by decide +kernel
theorem dX4_measureBy_145 : decode cX4_measureBy 145 = .ok (.iload 7, 2) := by decide +kernel
theorem dX4_measureBy_147 : decode cX4_measureBy 147 = .ok (.ior, 1) := by decide +kernel
theorem dX4_measureBy_148 : decode cX4_measureBy 148 = .ok (.istore 5, 2) := by decide +kernel
theorem dX4_measureBy_150 : decode cX4_measureBy 150 = .ok (.iload 8, 2) := by decide +kernel
theorem dX4_measureBy_152 : decode cX4_measureBy 152 = .ok (.istore_n 3, 1) := by decide +kernel
theorem dX4_measureBy_153 : decode cX4_measureBy 153 = .ok (.iinc 6 1, 3) := by decide +kernel
theorem dX4_measureBy_156 : decode cX4_measureBy 156 = .ok (.goto (-129), 3) := by decide +kernel
theorem dX4_measureBy_159 : decode cX4_measureBy 159 = .ok (.aload_n 0, 1) := by decide +kernel
theorem dX4_measureBy_160 : decode cX4_measureBy 160 = .ok (.getfield 18, 3) := by decide +kernel
theorem dX4_measureBy_163 : decode cX4_measureBy 163 = .ok (.iload_n 1, 1) := by decide +kernel
theorem dX4_measureBy_164 : decode cX4_measureBy 164 = .ok (.iload_n 2, 1) := by decide +kernel
theorem dX4_measureBy_165 : decode cX4_measureBy 165 = .ok (.iastore, 1) := by decide +kernel
theorem dX4_measureBy_166 : decode cX4_measureBy 166 = .ok (.aload_n 0, 1) := by decide +kernel
theorem dX4_measureBy_167 : decode cX4_measureBy 167 = .ok (.getfield 22, 3) := by decide +kernel
theorem dX4_measureBy_170 : decode cX4_measureBy 170 = .ok (.iload_n 1, 1) := by decide +kernel
theorem dX4_measureBy_171 : decode cX4_measureBy 171 = .ok (.iload_n 3, 1) := by decide +kernel
theorem dX4_measureBy_172 : decode cX4_measureBy 172 = .ok (.iastore, 1) := by decide +kernel
theorem dX4_measureBy_173 : decode cX4_measureBy 173 = .ok (.aload_n 0, 1) := by decide +kernel
theorem dX4_measureBy_174 : decode cX4_measureBy 174 = .ok (.getfield 25, 3) := by decide +kernel
theorem dX4_measureBy_177 : decode cX4_measureBy 177 = .ok (.iload 4, 2) := by decide +kernel
theorem dX4_measureBy_179 : decode cX4_measureBy 179 = .ok (.sipush 255, 3) := by decide +kernel
theorem dX4_measureBy_182 : decode cX4_measureBy 182 = .ok (.iand, 1) := by decide +kernel
theorem dX4_measureBy_183 : decode cX4_measureBy 183 = .ok (.iconst 1, 1) := by decide +kernel
theorem dX4_measureBy_184 : decode cX4_measureBy 184 = .ok (.iastore, 1) := by decide +kernel
theorem dX4_measureBy_185 : decode cX4_measureBy 185 = .ok (.aload_n 0, 1) := by decide +kernel
theorem dX4_measureBy_186 : decode cX4_measureBy 186 = .ok (.getfield 25, 3) := by decide +kernel
theorem dX4_measureBy_189 : decode cX4_measureBy 189 = .ok (.iload 5, 2) := by decide +kernel
theorem dX4_measureBy_191 : decode cX4_measureBy 191 = .ok (.sipush 255, 3) := by decide +kernel
theorem dX4_measureBy_194 : decode cX4_measureBy 194 = .ok (.iand, 1) := by decide +kernel
theorem dX4_measureBy_195 : decode cX4_measureBy 195 = .ok (.iconst 1, 1) := by decide +kernel
theorem dX4_measureBy_196 : decode cX4_measureBy 196 = .ok (.iastore, 1) := by decide +kernel
theorem dX4_measureBy_197 : decode cX4_measureBy 197 = .ok (.return_, 1) := by decide +kernel
theorem dX4_width_0 : decode cX4_width 0 = .ok (.aload_n 0, 1) := by decide +kernel
theorem dX4_width_1 : decode cX4_width 1 = .ok (.iload_n 1, 1) := by decide +kernel
theorem dX4_width_2 : decode cX4_width 2 = .ok (.invokevirtual 55, 3) := by decide +kernel
theorem dX4_width_5 : decode cX4_width 5 = .ok (.aload_n 0, 1) := by decide +kernel
theorem dX4_width_6 : decode cX4_width 6 = .ok (.getfield 15, 3) := by decide +kernel
theorem dX4_width_9 : decode cX4_width 9 = .ok (.ireturn, 1) := by decide +kernel
theorem dX4_isEdge_0 : decode cX4_isEdge 0 = .ok (.aload_n 0, 1) := by decide +kernel
theorem dX4_isEdge_1 : decode cX4_isEdge 1 = .ok (.iload_n 1, 1) := by decide +kernel
theorem dX4_isEdge_2 : decode cX4_isEdge 2 = .ok (.invokevirtual 55, 3) := by decide +kernel
theorem dX4_isEdge_5 : decode cX4_isEdge 5 = .ok (.aload_n 0, 1) := by decide +kernel
theorem dX4_isEdge_6 : decode cX4_isEdge 6 = .ok (.iload_n 2, 1) := by decide +kernel
theorem dX4_isEdge_7 : decode cX4_isEdge 7 = .ok (.invokevirtual 58, 3) := by decide +kernel
theorem dX4_isEdge_10 : decode cX4_isEdge 10 = .ok (.ifCond .eq 15, 3) := by decide +kernel
theorem dX4_isEdge_13 : decode cX4_isEdge 13 = .ok (.iload_n 2, 1) := by decide +kernel
theorem dX4_isEdge_14 : decode cX4_isEdge 14 = .ok (.invokestatic 62, 3) := by decide +kernel
theorem dX4_isEdge_17 : decode cX4_isEdge 17 = .ok (.iconst 2, 1) := by decide +kernel
theorem dX4_isEdge_18 : decode cX4_isEdge 18 = .ok (.if_icmp .ne 7, 3) := by decide +kernel
theorem dX4_isEdge_21 : decode cX4_isEdge 21 = .ok (.iconst 1, 1) := by decide +kernel
theorem dX4_isEdge_22 : decode cX4_isEdge 22 = .ok (.goto 4, 3) := by decide +kernel
theorem dX4_isEdge_25 : decode cX4_isEdge 25 = .ok (.iconst 0, 1) := by decide +kernel
theorem dX4_isEdge_26 : decode cX4_isEdge 26 = .ok (.ireturn, 1) := by decide +kernel
theorem dX4_edgeCount_0 : decode cX4_edgeCount 0 = .ok (.aload_n 0, 1) := by decide +kernel
theorem dX4_edgeCount_1 : decode cX4_edgeCount 1 = .ok (.iload_n 1, 1) := by decide +kernel
theorem dX4_edgeCount_2 : decode cX4_edgeCount 2 = .ok (.invokevirtual 55, 3) := by decide +kernel
theorem dX4_edgeCount_5 : decode cX4_edgeCount 5 = .ok (.iconst 0, 1) := by decide +kernel
theorem dX4_edgeCount_6 : decode cX4_edgeCount 6 = .ok (.istore_n 2, 1) := by decide +kernel
theorem dX4_edgeCount_7 : decode cX4_edgeCount 7 = .ok (.iconst 0, 1) := by decide +kernel
theorem dX4_edgeCount_8 : decode cX4_edgeCount 8 = .ok (.istore_n 3, 1) := by decide +kernel
theorem dX4_edgeCount_9 : decode cX4_edgeCount 9 = .ok (.iload_n 3, 1) := by decide +kernel
theorem dX4_edgeCount_10 : decode cX4_edgeCount 10 = .ok (.sipush 256, 3) := by decide +kernel
theorem dX4_edgeCount_13 : decode cX4_edgeCount 13 = .ok (.if_icmp .ge 28, 3) := by decide +kernel
theorem dX4_edgeCount_16 : decode cX4_edgeCount 16 = .ok (.aload_n 0, 1) := by decide +kernel
theorem dX4_edgeCount_17 : decode cX4_edgeCount 17 = .ok (.iload_n 3, 1) := by decide +kernel
theorem dX4_edgeCount_18 : decode cX4_edgeCount 18 = .ok (.invokevirtual 58, 3) := by decide +kernel
theorem dX4_edgeCount_21 : decode cX4_edgeCount 21 = .ok (.ifCond .eq 14, 3) := by decide +kernel
theorem dX4_edgeCount_24 : decode cX4_edgeCount 24 = .ok (.iload_n 3, 1) := by decide +kernel
theorem dX4_edgeCount_25 : decode cX4_edgeCount 25 = .ok (.invokestatic 62, 3) := by decide +kernel
theorem dX4_edgeCount_28 : decode cX4_edgeCount 28 = .ok (.iconst 2, 1) := by decide +kernel
theorem dX4_edgeCount_29 : decode cX4_edgeCount 29 = .ok (.if_icmp .ne 6, 3) := by decide +kernel
theorem dX4_edgeCount_32 : decode cX4_edgeCount 32 = .ok (.iinc 2 1, 3) := by decide +kernel
theorem dX4_edgeCount_35 : decode cX4_edgeCount 35 = .ok (.iinc 3 1, 3) := by decide +kernel
theorem dX4_edgeCount_38 : decode cX4_edgeCount 38 = .ok (.goto (-29), 3) := by decide +kernel
theorem dX4_edgeCount_41 : decode cX4_edgeCount 41 = .ok (.iload_n 2, 1) := by decide +kernel
theorem dX4_edgeCount_42 : decode cX4_edgeCount 42 = .ok (.ireturn, 1) := by decide +kernel
theorem dX4_isMeasuredTop_0 : decode cX4_isMeasuredTop 0 = .ok (.iload_n 1, 1) := by decide +kernel
theorem dX4_isMeasuredTop_1 : decode cX4_isMeasuredTop 1 = .ok (.ifCond .lt 24, 3) := by decide +kernel
theorem dX4_isMeasuredTop_4 : decode cX4_isMeasuredTop 4 = .ok (.iload_n 1, 1) := by decide +kernel
theorem dX4_isMeasuredTop_5 : decode cX4_isMeasuredTop 5 = .ok (.sipush 256, 3) := by decide +kernel
theorem dX4_isMeasuredTop_8 : decode cX4_isMeasuredTop 8 = .ok (.if_icmp .ge 17, 3) := by decide +kernel
theorem dX4_isMeasuredTop_11 : decode cX4_isMeasuredTop 11 = .ok (.aload_n 0, 1) := by decide +kernel
theorem dX4_isMeasuredTop_12 : decode cX4_isMeasuredTop 12 = .ok (.getfield 25, 3) := by decide +kernel
theorem dX4_isMeasuredTop_15 : decode cX4_isMeasuredTop 15 = .ok (.iload_n 1, 1) := by decide +kernel
theorem dX4_isMeasuredTop_16 : decode cX4_isMeasuredTop 16 = .ok (.iaload, 1) := by decide +kernel
theorem dX4_isMeasuredTop_17 : decode cX4_isMeasuredTop 17 = .ok (.iconst 1, 1) := by decide +kernel
theorem dX4_isMeasuredTop_18 : decode cX4_isMeasuredTop 18 = .ok (.if_icmp .ne 7, 3) := by decide +kernel
theorem dX4_isMeasuredTop_21 : decode cX4_isMeasuredTop 21 = .ok (.iconst 1, 1) := by decide +kernel
theorem dX4_isMeasuredTop_22 : decode cX4_isMeasuredTop 22 = .ok (.goto 4, 3) := by decide +kernel
theorem dX4_isMeasuredTop_25 : decode cX4_isMeasuredTop 25 = .ok (.iconst 0, 1) := by decide +kernel
theorem dX4_isMeasuredTop_26 : decode cX4_isMeasuredTop 26 = .ok (.ireturn, 1) := by decide +kernel
theorem dX4_isMeasuredFace_0 : decode cX4_isMeasuredFace 0 = .ok (.aload_n 0, 1) := by decide +kernel
theorem dX4_isMeasuredFace_1 : decode cX4_isMeasuredFace 1 = .ok (.iload_n 1, 1) := by decide +kernel
theorem dX4_isMeasuredFace_2 : decode cX4_isMeasuredFace 2 = .ok (.invokevirtual 58, 3) := by decide +kernel
theorem dX4_isMeasuredFace_5 : decode cX4_isMeasuredFace 5 = .ok (.ifCond .eq 23, 3) := by decide +kernel
theorem dX4_isMeasuredFace_8 : decode cX4_isMeasuredFace 8 = .ok (.iload_n 1, 1) := by decide +kernel
theorem dX4_isMeasuredFace_9 : decode cX4_isMeasuredFace 9 = .ok (.aload_n 0, 1) := by decide +kernel
theorem dX4_isMeasuredFace_10 : decode cX4_isMeasuredFace 10 = .ok (.getfield 9, 3) := by decide +kernel
theorem dX4_isMeasuredFace_13 : decode cX4_isMeasuredFace 13 = .ok (.if_icmp .eq 15, 3) := by decide +kernel
theorem dX4_isMeasuredFace_16 : decode cX4_isMeasuredFace 16 = .ok (.iload_n 1, 1) := by decide +kernel
theorem dX4_isMeasuredFace_17 : decode cX4_isMeasuredFace 17 = .ok (.invokestatic 62, 3) := by decide +kernel
theorem dX4_isMeasuredFace_20 : decode cX4_isMeasuredFace 20 = .ok (.iconst 3, 1) := by decide +kernel
theorem dX4_isMeasuredFace_21 : decode cX4_isMeasuredFace 21 = .ok (.if_icmp .lt 7, 3) := by decide +kernel
theorem dX4_isMeasuredFace_24 : decode cX4_isMeasuredFace 24 = .ok (.iconst 1, 1) := by decide +kernel
theorem dX4_isMeasuredFace_25 : decode cX4_isMeasuredFace 25 = .ok (.goto 4, 3) := by decide +kernel
theorem dX4_isMeasuredFace_28 : decode cX4_isMeasuredFace 28 = .ok (.iconst 0, 1) := by decide +kernel
theorem dX4_isMeasuredFace_29 : decode cX4_isMeasuredFace 29 = .ok (.ireturn, 1) := by decide +kernel
theorem dX4_faceCount_0 : decode cX4_faceCount 0 = .ok (.aload_n 0, 1) := by decide +kernel
theorem dX4_faceCount_1 : decode cX4_faceCount 1 = .ok (.iload_n 1, 1) := by decide +kernel
theorem dX4_faceCount_2 : decode cX4_faceCount 2 = .ok (.invokevirtual 55, 3) := by decide +kernel
theorem dX4_faceCount_5 : decode cX4_faceCount 5 = .ok (.iconst 0, 1) := by decide +kernel
theorem dX4_faceCount_6 : decode cX4_faceCount 6 = .ok (.istore_n 2, 1) := by decide +kernel
theorem dX4_faceCount_7 : decode cX4_faceCount 7 = .ok (.iconst 0, 1) := by decide +kernel
theorem dX4_faceCount_8 : decode cX4_faceCount 8 = .ok (.istore_n 3, 1) := by decide +kernel
theorem dX4_faceCount_9 : decode cX4_faceCount 9 = .ok (.iload_n 3, 1) := by decide +kernel
theorem dX4_faceCount_10 : decode cX4_faceCount 10 = .ok (.sipush 256, 3) := by decide +kernel
theorem dX4_faceCount_13 : decode cX4_faceCount 13 = .ok (.if_icmp .ge 20, 3) := by decide +kernel
theorem dX4_faceCount_16 : decode cX4_faceCount 16 = .ok (.aload_n 0, 1) := by decide +kernel
theorem dX4_faceCount_17 : decode cX4_faceCount 17 = .ok (.iload_n 3, 1) := by decide +kernel
theorem dX4_faceCount_18 : decode cX4_faceCount 18 = .ok (.invokevirtual 66, 3) := by decide +kernel
theorem dX4_faceCount_21 : decode cX4_faceCount 21 = .ok (.ifCond .eq 6, 3) := by decide +kernel
theorem dX4_faceCount_24 : decode cX4_faceCount 24 = .ok (.iinc 2 1, 3) := by decide +kernel
theorem dX4_faceCount_27 : decode cX4_faceCount 27 = .ok (.iinc 3 1, 3) := by decide +kernel
theorem dX4_faceCount_30 : decode cX4_faceCount 30 = .ok (.goto (-21), 3) := by decide +kernel
theorem dX4_faceCount_33 : decode cX4_faceCount 33 = .ok (.iload_n 2, 1) := by decide +kernel
theorem dX4_faceCount_34 : decode cX4_faceCount 34 = .ok (.ireturn, 1) := by decide +kernel
theorem dX4_faceAt_0 : decode cX4_faceAt 0 = .ok (.aload_n 0, 1) := by decide +kernel
theorem dX4_faceAt_1 : decode cX4_faceAt 1 = .ok (.iload_n 1, 1) := by decide +kernel
theorem dX4_faceAt_2 : decode cX4_faceAt 2 = .ok (.invokevirtual 55, 3) := by decide +kernel
theorem dX4_faceAt_5 : decode cX4_faceAt 5 = .ok (.iconst 0, 1) := by decide +kernel
theorem dX4_faceAt_6 : decode cX4_faceAt 6 = .ok (.istore_n 3, 1) := by decide +kernel
theorem dX4_faceAt_7 : decode cX4_faceAt 7 = .ok (.iconst 0, 1) := by decide +kernel
theorem dX4_faceAt_8 : decode cX4_faceAt 8 = .ok (.istore 4, 2) := by decide +kernel
theorem dX4_faceAt_10 : decode cX4_faceAt 10 = .ok (.iload 4, 2) := by decide +kernel
theorem dX4_faceAt_12 : decode cX4_faceAt 12 = .ok (.sipush 256, 3) := by decide +kernel
theorem dX4_faceAt_15 : decode cX4_faceAt 15 = .ok (.if_icmp .ge 29, 3) := by decide +kernel
theorem dX4_faceAt_18 : decode cX4_faceAt 18 = .ok (.aload_n 0, 1) := by decide +kernel
theorem dX4_faceAt_19 : decode cX4_faceAt 19 = .ok (.iload 4, 2) := by decide +kernel
theorem dX4_faceAt_21 : decode cX4_faceAt 21 = .ok (.invokevirtual 66, 3) := by decide +kernel
theorem dX4_faceAt_24 : decode cX4_faceAt 24 = .ok (.ifCond .eq 14, 3) := by decide +kernel
theorem dX4_faceAt_27 : decode cX4_faceAt 27 = .ok (.iload_n 3, 1) := by decide +kernel
theorem dX4_faceAt_28 : decode cX4_faceAt 28 = .ok (.iload_n 2, 1) := by decide +kernel
theorem dX4_faceAt_29 : decode cX4_faceAt 29 = .ok (.if_icmp .ne 6, 3) := by decide +kernel
theorem dX4_faceAt_32 : decode cX4_faceAt 32 = .ok (.iload 4, 2) := by decide +kernel
theorem dX4_faceAt_34 : decode cX4_faceAt 34 = .ok (.ireturn, 1) := by decide +kernel
theorem dX4_faceAt_35 : decode cX4_faceAt 35 = .ok (.iinc 3 1, 3) := by decide +kernel
theorem dX4_faceAt_38 : decode cX4_faceAt 38 = .ok (.iinc 4 1, 3) := by decide +kernel
theorem dX4_faceAt_41 : decode cX4_faceAt 41 = .ok (.goto (-31), 3) := by decide +kernel
theorem dX4_faceAt_44 : decode cX4_faceAt 44 = .ok (.bipush (-5), 2) := by decide +kernel
theorem dX4_faceAt_46 : decode cX4_faceAt 46 = .ok (.ireturn, 1) := by decide +kernel
theorem dX4_isIn_0 : decode cX4_isIn 0 = .ok (.aload_n 0, 1) := by decide +kernel
theorem dX4_isIn_1 : decode cX4_isIn 1 = .ok (.iload_n 1, 1) := by decide +kernel
theorem dX4_isIn_2 : decode cX4_isIn 2 = .ok (.invokevirtual 55, 3) := by decide +kernel
theorem dX4_isIn_5 : decode cX4_isIn 5 = .ok (.aload_n 0, 1) := by decide +kernel
theorem dX4_isIn_6 : decode cX4_isIn 6 = .ok (.iload_n 2, 1) := by decide +kernel
theorem dX4_isIn_7 : decode cX4_isIn 7 = .ok (.iload_n 3, 1) := by decide +kernel
theorem dX4_isIn_8 : decode cX4_isIn 8 = .ok (.iload 4, 2) := by decide +kernel
theorem dX4_isIn_10 : decode cX4_isIn 10 = .ok (.iload 5, 2) := by decide +kernel
theorem dX4_isIn_12 : decode cX4_isIn 12 = .ok (.invokevirtual 69, 3) := by decide +kernel
theorem dX4_isIn_15 : decode cX4_isIn 15 = .ok (.ireturn, 1) := by decide +kernel
theorem dX4_isInMeasured_0 : decode cX4_isInMeasured 0 = .ok (.iconst 0, 1) := by decide +kernel
theorem dX4_isInMeasured_1 : decode cX4_isInMeasured 1 = .ok (.istore 5, 2) := by decide +kernel
theorem dX4_isInMeasured_3 : decode cX4_isInMeasured 3 = .ok (.iload 5, 2) := by decide +kernel
theorem dX4_isInMeasured_5 : decode cX4_isInMeasured 5 = .ok (.sipush 171, 3) := by decide +kernel
theorem dX4_isInMeasured_8 : decode cX4_isInMeasured 8 = .ok (.if_icmp .ge 74, 3) := by decide +kernel
theorem dX4_isInMeasured_11 : decode cX4_isInMeasured 11 = .ok (.iload 5, 2) := by decide +kernel
theorem dX4_isInMeasured_13 : decode cX4_isInMeasured 13 = .ok (.bipush 49, 2) := by decide +kernel
theorem dX4_isInMeasured_15 : decode cX4_isInMeasured 15 = .ok (.idiv, 1) := by decide +kernel
theorem dX4_isInMeasured_16 : decode cX4_isInMeasured 16 = .ok (.iconst 3, 1) := by decide +kernel
theorem dX4_isInMeasured_17 : decode cX4_isInMeasured 17 = .ok (.isub, 1) := by decide +kernel
theorem dX4_isInMeasured_18 : decode cX4_isInMeasured 18 = .ok (.iload_n 2, 1) := by decide +kernel
theorem dX4_isInMeasured_19 : decode cX4_isInMeasured 19 = .ok (.imul, 1) := by decide +kernel
theorem dX4_isInMeasured_20 : decode cX4_isInMeasured 20 = .ok (.iload 5, 2) := by decide +kernel
theorem dX4_isInMeasured_22 : decode cX4_isInMeasured 22 = .ok (.bipush 7, 2) := by decide +kernel
theorem dX4_isInMeasured_24 : decode cX4_isInMeasured 24 = .ok (.idiv, 1) := by decide +kernel
theorem dX4_isInMeasured_25 : decode cX4_isInMeasured 25 = .ok (.bipush 7, 2) := by decide +kernel
theorem dX4_isInMeasured_27 : decode cX4_isInMeasured 27 = .ok (.irem, 1) := by decide +kernel
theorem dX4_isInMeasured_28 : decode cX4_isInMeasured 28 = .ok (.iconst 3, 1) := by decide +kernel
theorem dX4_isInMeasured_29 : decode cX4_isInMeasured 29 = .ok (.isub, 1) := by decide +kernel
theorem dX4_isInMeasured_30 : decode cX4_isInMeasured 30 = .ok (.iload_n 3, 1) := by decide +kernel
theorem dX4_isInMeasured_31 : decode cX4_isInMeasured 31 = .ok (.imul, 1) := by decide +kernel
theorem dX4_isInMeasured_32 : decode cX4_isInMeasured 32 = .ok (.iadd, 1) := by decide +kernel
theorem dX4_isInMeasured_33 : decode cX4_isInMeasured 33 = .ok (.iload 5, 2) := by decide +kernel
theorem dX4_isInMeasured_35 : decode cX4_isInMeasured 35 = .ok (.bipush 7, 2) := by decide +kernel
theorem dX4_isInMeasured_37 : decode cX4_isInMeasured 37 = .ok (.irem, 1) := by decide +kernel
theorem dX4_isInMeasured_38 : decode cX4_isInMeasured 38 = .ok (.iconst 3, 1) := by decide +kernel
theorem dX4_isInMeasured_39 : decode cX4_isInMeasured 39 = .ok (.isub, 1) := by decide +kernel
theorem dX4_isInMeasured_40 : decode cX4_isInMeasured 40 = .ok (.iload 4, 2) := by decide +kernel
theorem dX4_isInMeasured_42 : decode cX4_isInMeasured 42 = .ok (.imul, 1) := by decide +kernel
theorem dX4_isInMeasured_43 : decode cX4_isInMeasured 43 = .ok (.iadd, 1) := by decide +kernel
theorem dX4_isInMeasured_44 : decode cX4_isInMeasured 44 = .ok (.istore 6, 2) := by decide +kernel
theorem dX4_isInMeasured_46 : decode cX4_isInMeasured 46 = .ok (.iload 6, 2) := by decide +kernel
theorem dX4_isInMeasured_48 : decode cX4_isInMeasured 48 = .ok (.iload_n 1, 1) := by decide +kernel
theorem dX4_isInMeasured_49 : decode cX4_isInMeasured 49 = .ok (.aload_n 0, 1) := by decide +kernel
theorem dX4_isInMeasured_50 : decode cX4_isInMeasured 50 = .ok (.getfield 18, 3) := by decide +kernel
theorem dX4_isInMeasured_53 : decode cX4_isInMeasured 53 = .ok (.iload 5, 2) := by decide +kernel
theorem dX4_isInMeasured_55 : decode cX4_isInMeasured 55 = .ok (.iaload, 1) := by decide +kernel
theorem dX4_isInMeasured_56 : decode cX4_isInMeasured 56 = .ok (.imul, 1) := by decide +kernel
theorem dX4_isInMeasured_57 : decode cX4_isInMeasured 57 = .ok (.if_icmp .gt 17, 3) := by decide +kernel
theorem dX4_isInMeasured_60 : decode cX4_isInMeasured 60 = .ok (.iload 6, 2) := by decide +kernel
theorem dX4_isInMeasured_62 : decode cX4_isInMeasured 62 = .ok (.iload_n 1, 1) := by decide +kernel
theorem dX4_isInMeasured_63 : decode cX4_isInMeasured 63 = .ok (.aload_n 0, 1) := by decide +kernel
theorem dX4_isInMeasured_64 : decode cX4_isInMeasured 64 = .ok (.getfield 22, 3) := by decide +kernel
theorem dX4_isInMeasured_67 : decode cX4_isInMeasured 67 = .ok (.iload 5, 2) := by decide +kernel
theorem dX4_isInMeasured_69 : decode cX4_isInMeasured 69 = .ok (.iaload, 1) := by decide +kernel
theorem dX4_isInMeasured_70 : decode cX4_isInMeasured 70 = .ok (.imul, 1) := by decide +kernel
theorem dX4_isInMeasured_71 : decode cX4_isInMeasured 71 = .ok (.if_icmp .ge 5, 3) := by decide +kernel
theorem dX4_isInMeasured_74 : decode cX4_isInMeasured 74 = .ok (.iconst 0, 1) := by decide +kernel
theorem dX4_isInMeasured_75 : decode cX4_isInMeasured 75 = .ok (.ireturn, 1) := by decide +kernel
theorem dX4_isInMeasured_76 : decode cX4_isInMeasured 76 = .ok (.iinc 5 1, 3) := by decide +kernel
theorem dX4_isInMeasured_79 : decode cX4_isInMeasured 79 = .ok (.goto (-76), 3) := by decide +kernel
theorem dX4_isInMeasured_82 : decode cX4_isInMeasured 82 = .ok (.iconst 1, 1) := by decide +kernel
theorem dX4_isInMeasured_83 : decode cX4_isInMeasured 83 = .ok (.ireturn, 1) := by decide +kernel
theorem dX4_pointsIn_0 : decode cX4_pointsIn 0 = .ok (.iload_n 1, 1) := by decide +kernel
theorem dX4_pointsIn_1 : decode cX4_pointsIn 1 = .ok (.iconst 3, 1) := by decide +kernel
theorem dX4_pointsIn_2 : decode cX4_pointsIn 2 = .ok (.imul, 1) := by decide +kernel
theorem dX4_pointsIn_3 : decode cX4_pointsIn 3 = .ok (.iload_n 2, 1) := by decide +kernel
theorem dX4_pointsIn_4 : decode cX4_pointsIn 4 = .ok (.iadd, 1) := by decide +kernel
theorem dX4_pointsIn_5 : decode cX4_pointsIn 5 = .ok (.iconst 1, 1) := by decide +kernel
theorem dX4_pointsIn_6 : decode cX4_pointsIn 6 = .ok (.isub, 1) := by decide +kernel
theorem dX4_pointsIn_7 : decode cX4_pointsIn 7 = .ok (.istore_n 3, 1) := by decide +kernel
theorem dX4_pointsIn_8 : decode cX4_pointsIn 8 = .ok (.iload_n 3, 1) := by decide +kernel
theorem dX4_pointsIn_9 : decode cX4_pointsIn 9 = .ok (.ifCond .lt 12, 3) := by decide +kernel
theorem dX4_pointsIn_12 : decode cX4_pointsIn 12 = .ok (.iload_n 3, 1) := by decide +kernel
theorem dX4_pointsIn_13 : decode cX4_pointsIn 13 = .ok (.aload_n 0, 1) := by decide +kernel
theorem dX4_pointsIn_14 : decode cX4_pointsIn 14 = .ok (.getfield 28, 3) := by decide +kernel
theorem dX4_pointsIn_17 : decode cX4_pointsIn 17 = .ok (.arraylength, 1) := by decide +kernel
theorem dX4_pointsIn_18 : decode cX4_pointsIn 18 = .ok (.if_icmp .lt 5, 3) := by decide +kernel
theorem dX4_pointsIn_21 : decode cX4_pointsIn 21 = .ok (.iconst 0, 1) := by decide +kernel
theorem dX4_pointsIn_22 : decode cX4_pointsIn 22 = .ok (.ireturn, 1) := by decide +kernel
theorem dX4_pointsIn_23 : decode cX4_pointsIn 23 = .ok (.aload_n 0, 1) := by decide +kernel
theorem dX4_pointsIn_24 : decode cX4_pointsIn 24 = .ok (.getfield 28, 3) := by decide +kernel
theorem dX4_pointsIn_27 : decode cX4_pointsIn 27 = .ok (.iload_n 3, 1) := by decide +kernel
theorem dX4_pointsIn_28 : decode cX4_pointsIn 28 = .ok (.iaload, 1) := by decide +kernel
theorem dX4_pointsIn_29 : decode cX4_pointsIn 29 = .ok (.ifCond .ne 58, 3) := by decide +kernel
theorem dX4_pointsIn_32 : decode cX4_pointsIn 32 = .ok (.aload_n 0, 1) := by decide +kernel
theorem dX4_pointsIn_33 : decode cX4_pointsIn 33 = .ok (.iload_n 1, 1) := by decide +kernel
theorem dX4_pointsIn_34 : decode cX4_pointsIn 34 = .ok (.invokevirtual 55, 3) := by decide +kernel
theorem dX4_pointsIn_37 : decode cX4_pointsIn 37 = .ok (.iconst 0, 1) := by decide +kernel
theorem dX4_pointsIn_38 : decode cX4_pointsIn 38 = .ok (.istore 4, 2) := by decide +kernel
theorem dX4_pointsIn_40 : decode cX4_pointsIn 40 = .ok (.iload 4, 2) := by decide +kernel
theorem dX4_pointsIn_42 : decode cX4_pointsIn 42 = .ok (.bipush 64, 2) := by decide +kernel
theorem dX4_pointsIn_44 : decode cX4_pointsIn 44 = .ok (.if_icmp .ge 43, 3) := by decide +kernel
theorem dX4_pointsIn_47 : decode cX4_pointsIn 47 = .ok (.aload_n 0, 1) := by decide +kernel
theorem dX4_pointsIn_48 : decode cX4_pointsIn 48 = .ok (.iload_n 2, 1) := by decide +kernel
theorem dX4_pointsIn_49 : decode cX4_pointsIn 49 = .ok (.iload 4, 2) := by decide +kernel
theorem dX4_pointsIn_51 : decode cX4_pointsIn 51 = .ok (.iconst 3, 1) := by decide +kernel
theorem dX4_pointsIn_52 : decode cX4_pointsIn 52 = .ok (.iand, 1) := by decide +kernel
theorem dX4_pointsIn_53 : decode cX4_pointsIn 53 = .ok (.iload 4, 2) := by decide +kernel
theorem dX4_pointsIn_55 : decode cX4_pointsIn 55 = .ok (.iconst 2, 1) := by decide +kernel
theorem dX4_pointsIn_56 : decode cX4_pointsIn 56 = .ok (.ishr, 1) := by decide +kernel
theorem dX4_pointsIn_57 : decode cX4_pointsIn 57 = .ok (.iconst 3, 1) := by decide +kernel
theorem dX4_pointsIn_58 : decode cX4_pointsIn 58 = .ok (.iand, 1) := by decide +kernel
theorem dX4_pointsIn_59 : decode cX4_pointsIn 59 = .ok (.iload 4, 2) := by decide +kernel
theorem dX4_pointsIn_61 : decode cX4_pointsIn 61 = .ok (.iconst 4, 1) := by decide +kernel
theorem dX4_pointsIn_62 : decode cX4_pointsIn 62 = .ok (.ishr, 1) := by decide +kernel
theorem dX4_pointsIn_63 : decode cX4_pointsIn 63 = .ok (.iconst 3, 1) := by decide +kernel
theorem dX4_pointsIn_64 : decode cX4_pointsIn 64 = .ok (.iand, 1) := by decide +kernel
theorem dX4_pointsIn_65 : decode cX4_pointsIn 65 = .ok (.invokevirtual 69, 3) := by decide +kernel
theorem dX4_pointsIn_68 : decode cX4_pointsIn 68 = .ok (.ifCond .eq 13, 3) := by decide +kernel
theorem dX4_pointsIn_71 : decode cX4_pointsIn 71 = .ok (.aload_n 0, 1) := by decide +kernel
theorem dX4_pointsIn_72 : decode cX4_pointsIn 72 = .ok (.getfield 28, 3) := by decide +kernel
theorem dX4_pointsIn_75 : decode cX4_pointsIn 75 = .ok (.iload_n 3, 1) := by decide +kernel
theorem dX4_pointsIn_76 : decode cX4_pointsIn 76 = .ok (.dup2, 1) := by decide +kernel
theorem dX4_pointsIn_77 : decode cX4_pointsIn 77 = .ok (.iaload, 1) := by decide +kernel
theorem dX4_pointsIn_78 : decode cX4_pointsIn 78 = .ok (.iconst 1, 1) := by decide +kernel
theorem dX4_pointsIn_79 : decode cX4_pointsIn 79 = .ok (.iadd, 1) := by decide +kernel
theorem dX4_pointsIn_80 : decode cX4_pointsIn 80 = .ok (.iastore, 1) := by decide +kernel
theorem dX4_pointsIn_81 : decode cX4_pointsIn 81 = .ok (.iinc 4 1, 3) := by decide +kernel
theorem dX4_pointsIn_84 : decode cX4_pointsIn 84 = .ok (.goto (-44), 3) := by decide +kernel
theorem dX4_pointsIn_87 : decode cX4_pointsIn 87 = .ok (.aload_n 0, 1) := by decide +kernel
theorem dX4_pointsIn_88 : decode cX4_pointsIn 88 = .ok (.getfield 28, 3) := by decide +kernel
theorem dX4_pointsIn_91 : decode cX4_pointsIn 91 = .ok (.iload_n 3, 1) := by decide +kernel
theorem dX4_pointsIn_92 : decode cX4_pointsIn 92 = .ok (.iaload, 1) := by decide +kernel
theorem dX4_pointsIn_93 : decode cX4_pointsIn 93 = .ok (.ireturn, 1) := by decide +kernel
theorem dX4_sixfold_0 : decode cX4_sixfold 0 = .ok (.iload_n 1, 1) := by decide +kernel
theorem dX4_sixfold_1 : decode cX4_sixfold 1 = .ok (.ifCond .ne 7, 3) := by decide +kernel
theorem dX4_sixfold_4 : decode cX4_sixfold 4 = .ok (.iconst 0, 1) := by decide +kernel
theorem dX4_sixfold_5 : decode cX4_sixfold 5 = .ok (.goto 29, 3) := by decide +kernel
theorem dX4_sixfold_8 : decode cX4_sixfold 8 = .ok (.aload_n 0, 1) := by decide +kernel
theorem dX4_sixfold_9 : decode cX4_sixfold 9 = .ok (.iload_n 1, 1) := by decide +kernel
theorem dX4_sixfold_10 : decode cX4_sixfold 10 = .ok (.iconst 3, 1) := by decide +kernel
theorem dX4_sixfold_11 : decode cX4_sixfold 11 = .ok (.invokevirtual 73, 3) := by decide +kernel
theorem dX4_sixfold_14 : decode cX4_sixfold 14 = .ok (.iconst 3, 1) := by decide +kernel
theorem dX4_sixfold_15 : decode cX4_sixfold 15 = .ok (.aload_n 0, 1) := by decide +kernel
theorem dX4_sixfold_16 : decode cX4_sixfold 16 = .ok (.iload_n 1, 1) := by decide +kernel
theorem dX4_sixfold_17 : decode cX4_sixfold 17 = .ok (.iconst 2, 1) := by decide +kernel
theorem dX4_sixfold_18 : decode cX4_sixfold 18 = .ok (.invokevirtual 73, 3) := by decide +kernel
theorem dX4_sixfold_21 : decode cX4_sixfold 21 = .ok (.imul, 1) := by decide +kernel
theorem dX4_sixfold_22 : decode cX4_sixfold 22 = .ok (.isub, 1) := by decide +kernel
theorem dX4_sixfold_23 : decode cX4_sixfold 23 = .ok (.iconst 3, 1) := by decide +kernel
theorem dX4_sixfold_24 : decode cX4_sixfold 24 = .ok (.aload_n 0, 1) := by decide +kernel
theorem dX4_sixfold_25 : decode cX4_sixfold 25 = .ok (.iload_n 1, 1) := by decide +kernel
theorem dX4_sixfold_26 : decode cX4_sixfold 26 = .ok (.iconst 1, 1) := by decide +kernel
theorem dX4_sixfold_27 : decode cX4_sixfold 27 = .ok (.invokevirtual 73, 3) := by decide +kernel
theorem dX4_sixfold_30 : decode cX4_sixfold 30 = .ok (.imul, 1) := by decide +kernel
theorem dX4_sixfold_31 : decode cX4_sixfold 31 = .ok (.iadd, 1) := by decide +kernel
theorem dX4_sixfold_32 : decode cX4_sixfold 32 = .ok (.iconst 1, 1) := by decide +kernel
theorem dX4_sixfold_33 : decode cX4_sixfold 33 = .ok (.isub, 1) := by decide +kernel
theorem dX4_sixfold_34 : decode cX4_sixfold 34 = .ok (.ireturn, 1) := by decide +kernel
theorem dX4_fat_0 : decode cX4_fat 0 = .ok (.aload_n 0, 1) := by decide +kernel
theorem dX4_fat_1 : decode cX4_fat 1 = .ok (.iload_n 1, 1) := by decide +kernel
theorem dX4_fat_2 : decode cX4_fat 2 = .ok (.invokevirtual 76, 3) := by decide +kernel
theorem dX4_fat_5 : decode cX4_fat 5 = .ok (.istore_n 2, 1) := by decide +kernel
theorem dX4_fat_6 : decode cX4_fat 6 = .ok (.iload_n 2, 1) := by decide +kernel
theorem dX4_fat_7 : decode cX4_fat 7 = .ok (.ifCond .ne 7, 3) := by decide +kernel
theorem dX4_fat_10 : decode cX4_fat 10 = .ok (.fconst 0, 1) := by decide +kernel
theorem dX4_fat_11 : decode cX4_fat 11 = .ok (.goto 15, 3) := by decide +kernel
theorem dX4_fat_14 : decode cX4_fat 14 = .ok (.aload_n 0, 1) := by decide +kernel
theorem dX4_fat_15 : decode cX4_fat 15 = .ok (.iload_n 1, 1) := by decide +kernel
theorem dX4_fat_16 : decode cX4_fat 16 = .ok (.invokevirtual 79, 3) := by decide +kernel
theorem dX4_fat_19 : decode cX4_fat 19 = .ok (.i2f, 1) := by decide +kernel
theorem dX4_fat_20 : decode cX4_fat 20 = .ok (.ldc 82, 2) := by decide +kernel
theorem dX4_fat_22 : decode cX4_fat 22 = .ok (.fdiv, 1) := by decide +kernel
theorem dX4_fat_23 : decode cX4_fat 23 = .ok (.iload_n 2, 1) := by decide +kernel
theorem dX4_fat_24 : decode cX4_fat 24 = .ok (.i2f, 1) := by decide +kernel
theorem dX4_fat_25 : decode cX4_fat 25 = .ok (.fdiv, 1) := by decide +kernel
theorem dX4_fat_26 : decode cX4_fat 26 = .ok (.freturn, 1) := by decide +kernel
theorem dX5_init_0 : decode cX5_init 0 = .ok (.aload_n 0, 1) := by decide +kernel
theorem dX5_init_1 : decode cX5_init 1 = .ok (.invokespecial 1, 3) := by decide +kernel
theorem dX5_init_4 : decode cX5_init 4 = .ok (.aload_n 0, 1) := by decide +kernel
theorem dX5_init_5 : decode cX5_init 5 = .ok (.bipush 60, 2) := by decide +kernel
theorem dX5_init_7 : decode cX5_init 7 = .ok (.newarray .long, 2) := by decide +kernel
theorem dX5_init_9 : decode cX5_init 9 = .ok (.putfield 9, 3) := by decide +kernel
theorem dX5_init_12 : decode cX5_init 12 = .ok (.aload_n 0, 1) := by decide +kernel
theorem dX5_init_13 : decode cX5_init 13 = .ok (.iconst (-1), 1) := by decide +kernel
theorem dX5_init_14 : decode cX5_init 14 = .ok (.putfield 13, 3) := by decide +kernel
theorem dX5_init_17 : decode cX5_init 17 = .ok (.aload_n 0, 1) := by decide +kernel
theorem dX5_init_18 : decode cX5_init 18 = .ok (.iconst 0, 1) := by decide +kernel
theorem dX5_init_19 : decode cX5_init 19 = .ok (.putfield 17, 3) := by decide +kernel
theorem dX5_init_22 : decode cX5_init 22 = .ok (.return_, 1) := by decide +kernel
theorem dX5_becomeRow_0 : decode cX5_becomeRow 0 = .ok (.aload_n 0, 1) := by decide +kernel
theorem dX5_becomeRow_1 : decode cX5_becomeRow 1 = .ok (.iload_n 1, 1) := by decide +kernel
theorem dX5_becomeRow_2 : decode cX5_becomeRow 2 = .ok (.putfield 13, 3) := by decide +kernel
theorem dX5_becomeRow_5 : decode cX5_becomeRow 5 = .ok (.aload_n 0, 1) := by decide +kernel
theorem dX5_becomeRow_6 : decode cX5_becomeRow 6 = .ok (.iload_n 2, 1) := by decide +kernel
theorem dX5_becomeRow_7 : decode cX5_becomeRow 7 = .ok (.putfield 17, 3) := by decide +kernel
theorem dX5_becomeRow_10 : decode cX5_becomeRow 10 = .ok (.iconst 0, 1) := by decide +kernel
theorem dX5_becomeRow_11 : decode cX5_becomeRow 11 = .ok (.istore_n 3, 1) := by decide +kernel
theorem dX5_becomeRow_12 : decode cX5_becomeRow 12 = .ok (.iload_n 3, 1) := by decide +kernel
theorem dX5_becomeRow_13 : decode cX5_becomeRow 13 = .ok (.bipush 60, 2) := by decide +kernel
theorem dX5_becomeRow_15 : decode cX5_becomeRow 15 = .ok (.if_icmp .ge 16, 3) := by decide +kernel
theorem dX5_becomeRow_18 : decode cX5_becomeRow 18 = .ok (.aload_n 0, 1) := by decide +kernel
theorem dX5_becomeRow_19 : decode cX5_becomeRow 19 = .ok (.getfield 9, 3) := by decide +kernel
theorem dX5_becomeRow_22 : decode cX5_becomeRow 22 = .ok (.iload_n 3, 1) := by decide +kernel
theorem dX5_becomeRow_23 : decode cX5_becomeRow 23 = .ok (.lconst 0, 1) := by decide +kernel
theorem dX5_becomeRow_24 : decode cX5_becomeRow 24 = .ok (.lastore, 1) := by decide +kernel
theorem dX5_becomeRow_25 : decode cX5_becomeRow 25 = .ok (.iinc 3 1, 3) := by decide +kernel
theorem dX5_becomeRow_28 : decode cX5_becomeRow 28 = .ok (.goto (-16), 3) := by decide +kernel
theorem dX5_becomeRow_31 : decode cX5_becomeRow 31 = .ok (.return_, 1) := by decide +kernel
theorem dX5_holdsRow_0 : decode cX5_holdsRow 0 = .ok (.aload_n 0, 1) := by decide +kernel
theorem dX5_holdsRow_1 : decode cX5_holdsRow 1 = .ok (.getfield 13, 3) := by decide +kernel
theorem dX5_holdsRow_4 : decode cX5_holdsRow 4 = .ok (.iconst (-1), 1) := by decide +kernel
theorem dX5_holdsRow_5 : decode cX5_holdsRow 5 = .ok (.if_icmp .eq 7, 3) := by decide +kernel
theorem dX5_holdsRow_8 : decode cX5_holdsRow 8 = .ok (.iconst 1, 1) := by decide +kernel
theorem dX5_holdsRow_9 : decode cX5_holdsRow 9 = .ok (.goto 4, 3) := by decide +kernel
theorem dX5_holdsRow_12 : decode cX5_holdsRow 12 = .ok (.iconst 0, 1) := by decide +kernel
theorem dX5_holdsRow_13 : decode cX5_holdsRow 13 = .ok (.ireturn, 1) := by decide +kernel
theorem dX5_hasPlace_0 : decode cX5_hasPlace 0 = .ok (.iload_n 1, 1) := by decide +kernel
theorem dX5_hasPlace_1 : decode cX5_hasPlace 1 = .ok (.ifCond .lt 21, 3) := by decide +kernel
theorem dX5_hasPlace_4 : decode cX5_hasPlace 4 = .ok (.iload_n 1, 1) := by decide +kernel
theorem dX5_hasPlace_5 : decode cX5_hasPlace 5 = .ok (.aload_n 0, 1) := by decide +kernel
theorem dX5_hasPlace_6 : decode cX5_hasPlace 6 = .ok (.getfield 17, 3) := by decide +kernel
theorem dX5_hasPlace_9 : decode cX5_hasPlace 9 = .ok (.if_icmp .ge 13, 3) := by decide +kernel
theorem dX5_hasPlace_12 : decode cX5_hasPlace 12 = .ok (.iload_n 1, 1) := by decide +kernel
theorem dX5_hasPlace_13 : decode cX5_hasPlace 13 = .ok (.bipush 60, 2) := by decide +kernel
theorem dX5_hasPlace_15 : decode cX5_hasPlace 15 = .ok (.if_icmp .ge 7, 3) := by decide +kernel
theorem dX5_hasPlace_18 : decode cX5_hasPlace 18 = .ok (.iconst 1, 1) := by decide +kernel
theorem dX5_hasPlace_19 : decode cX5_hasPlace 19 = .ok (.goto 4, 3) := by decide +kernel
theorem dX5_hasPlace_22 : decode cX5_hasPlace 22 = .ok (.iconst 0, 1) := by decide +kernel
theorem dX5_hasPlace_23 : decode cX5_hasPlace 23 = .ok (.ireturn, 1) := by decide +kernel
theorem dX5_hasRun_0 : decode cX5_hasRun 0 = .ok (.iload_n 2, 1) := by decide +kernel
theorem dX5_hasRun_1 : decode cX5_hasRun 1 = .ok (.ifCond .lt 29, 3) := by decide +kernel
theorem dX5_hasRun_4 : decode cX5_hasRun 4 = .ok (.iload_n 1, 1) := by decide +kernel
theorem dX5_hasRun_5 : decode cX5_hasRun 5 = .ok (.ifCond .lt 25, 3) := by decide +kernel
theorem dX5_hasRun_8 : decode cX5_hasRun 8 = .ok (.iload_n 2, 1) := by decide +kernel
theorem dX5_hasRun_9 : decode cX5_hasRun 9 = .ok (.aload_n 0, 1) := by decide +kernel
theorem dX5_hasRun_10 : decode cX5_hasRun 10 = .ok (.getfield 17, 3) := by decide +kernel
theorem dX5_hasRun_13 : decode cX5_hasRun 13 = .ok (.if_icmp .gt 17, 3) := by decide +kernel
theorem dX5_hasRun_16 : decode cX5_hasRun 16 = .ok (.iload_n 1, 1) := by decide +kernel
theorem dX5_hasRun_17 : decode cX5_hasRun 17 = .ok (.aload_n 0, 1) := by decide +kernel
theorem dX5_hasRun_18 : decode cX5_hasRun 18 = .ok (.getfield 17, 3) := by decide +kernel
theorem dX5_hasRun_21 : decode cX5_hasRun 21 = .ok (.iload_n 2, 1) := by decide +kernel
theorem dX5_hasRun_22 : decode cX5_hasRun 22 = .ok (.isub, 1) := by decide +kernel
theorem dX5_hasRun_23 : decode cX5_hasRun 23 = .ok (.if_icmp .gt 7, 3) := by decide +kernel
theorem dX5_hasRun_26 : decode cX5_hasRun 26 = .ok (.iconst 1, 1) := by decide +kernel
theorem dX5_hasRun_27 : decode cX5_hasRun 27 = .ok (.goto 4, 3) := by decide +kernel
theorem dX5_hasRun_30 : decode cX5_hasRun 30 = .ok (.iconst 0, 1) := by decide +kernel
theorem dX5_hasRun_31 : decode cX5_hasRun 31 = .ok (.ireturn, 1) := by decide +kernel
theorem dX5_itemAt_0 : decode cX5_itemAt 0 = .ok (.aload_n 0, 1) := by decide +kernel
theorem dX5_itemAt_1 : decode cX5_itemAt 1 = .ok (.iload_n 1, 1) := by decide +kernel
theorem dX5_itemAt_2 : decode cX5_itemAt 2 = .ok (.invokevirtual 20, 3) := by decide +kernel
theorem dX5_itemAt_5 : decode cX5_itemAt 5 = .ok (.ifCond .eq 12, 3) := by decide +kernel
theorem dX5_itemAt_8 : decode cX5_itemAt 8 = .ok (.aload_n 0, 1) := by decide +kernel
theorem dX5_itemAt_9 : decode cX5_itemAt 9 = .ok (.getfield 9, 3) := by decide +kernel
theorem dX5_itemAt_12 : decode cX5_itemAt 12 = .ok (.iload_n 1, 1) := by decide +kernel
theorem dX5_itemAt_13 : decode cX5_itemAt 13 = .ok (.laload, 1) := by decide +kernel
theorem dX5_itemAt_14 : decode cX5_itemAt 14 = .ok (.goto 4, 3) := by decide +kernel
theorem dX5_itemAt_17 : decode cX5_itemAt 17 = .ok (.lconst 0, 1) := by decide +kernel
theorem dX5_itemAt_18 : decode cX5_itemAt 18 = .ok (.lreturn, 1) := by decide +kernel
theorem dX5_put_0 : decode cX5_put 0 = .ok (.aload_n 0, 1) := by decide +kernel
theorem dX5_put_1 : decode cX5_put 1 = .ok (.iload_n 1, 1) := by decide +kernel
theorem dX5_put_2 : decode cX5_put 2 = .ok (.invokevirtual 20, 3) := by decide +kernel
theorem dX5_put_5 : decode cX5_put 5 = .ok (.ifCond .eq 14, 3) := by decide +kernel
theorem dX5_put_8 : decode cX5_put 8 = .ok (.aload_n 0, 1) := by decide +kernel
theorem dX5_put_9 : decode cX5_put 9 = .ok (.getfield 9, 3) := by decide +kernel
theorem dX5_put_12 : decode cX5_put 12 = .ok (.iload_n 1, 1) := by decide +kernel
theorem dX5_put_13 : decode cX5_put 13 = .ok (.aload_n 0, 1) := by decide +kernel
theorem dX5_put_14 : decode cX5_put 14 = .ok (.lload_n 2, 1) := by decide +kernel
theorem dX5_put_15 : decode cX5_put 15 = .ok (.invokevirtual 24, 3) := by decide +kernel
theorem dX5_put_18 : decode cX5_put 18 = .ok (.lastore, 1) := by decide +kernel
theorem dX5_put_19 : decode cX5_put 19 = .ok (.return_, 1) := by decide +kernel
theorem dX5_cut_0 : decode cX5_cut 0 = .ok (.aload_n 0, 1) := by decide +kernel
theorem dX5_cut_1 : decode cX5_cut 1 = .ok (.getfield 13, 3) := by decide +kernel
theorem dX5_cut_4 : decode cX5_cut 4 = .ok (.tableswitch 48 0 3 #[32, 37, 42, 46], 32) := by decide +kernel
theorem dX5_cut_36 : decode cX5_cut 36 = .ok (.lload_n 1, 1) := by decide +kernel
theorem dX5_cut_37 : decode cX5_cut 37 = .ok (.l2i, 1) := by decide +kernel
theorem dX5_cut_38 : decode cX5_cut 38 = .ok (.i2b, 1) := by decide +kernel
theorem dX5_cut_39 : decode cX5_cut 39 = .ok (.i2l, 1) := by decide +kernel
theorem dX5_cut_40 : decode cX5_cut 40 = .ok (.lreturn, 1) := by decide +kernel
theorem dX5_cut_41 : decode cX5_cut 41 = .ok (.lload_n 1, 1) := by decide +kernel
theorem dX5_cut_42 : decode cX5_cut 42 = .ok (.l2i, 1) := by decide +kernel
theorem dX5_cut_43 : decode cX5_cut 43 = .ok (.i2s, 1) := by decide +kernel
theorem dX5_cut_44 : decode cX5_cut 44 = .ok (.i2l, 1) := by decide +kernel
theorem dX5_cut_45 : decode cX5_cut 45 = .ok (.lreturn, 1) := by decide +kernel
theorem dX5_cut_46 : decode cX5_cut 46 = .ok (.lload_n 1, 1) := by decide +kernel
theorem dX5_cut_47 : decode cX5_cut 47 = .ok (.l2i, 1) := by decide +kernel
theorem dX5_cut_48 : decode cX5_cut 48 = .ok (.i2l, 1) := by decide +kernel
theorem dX5_cut_49 : decode cX5_cut 49 = .ok (.lreturn, 1) := by decide +kernel
theorem dX5_cut_50 : decode cX5_cut 50 = .ok (.lload_n 1, 1) := by decide +kernel
theorem dX5_cut_51 : decode cX5_cut 51 = .ok (.lreturn, 1) := by decide +kernel
theorem dX5_cut_52 : decode cX5_cut 52 = .ok (.lload_n 1, 1) := by decide +kernel
theorem dX5_cut_53 : decode cX5_cut 53 = .ok (.lconst 0, 1) := by decide +kernel
theorem dX5_cut_54 : decode cX5_cut 54 = .ok (.lcmp, 1) := by decide +kernel
theorem dX5_cut_55 : decode cX5_cut 55 = .ok (.ifCond .eq 7, 3) := by decide +kernel
theorem dX5_cut_58 : decode cX5_cut 58 = .ok (.lconst 1, 1) := by decide +kernel
theorem dX5_cut_59 : decode cX5_cut 59 = .ok (.goto 4, 3) := by decide +kernel
theorem dX5_cut_62 : decode cX5_cut 62 = .ok (.lconst 0, 1) := by decide +kernel
theorem dX5_cut_63 : decode cX5_cut 63 = .ok (.lreturn, 1) := by decide +kernel
theorem dX6_init_0 : decode cX6_init 0 = .ok (.aload_n 0, 1) := by decide +kernel
theorem dX6_init_1 : decode cX6_init 1 = .ok (.invokespecial 3, 3) := by decide +kernel
theorem dX6_init_4 : decode cX6_init 4 = .ok (.aload_n 0, 1) := by decide +kernel
theorem dX6_init_5 : decode cX6_init 5 = .ok (.bipush 100, 2) := by decide +kernel
theorem dX6_init_7 : decode cX6_init 7 = .ok (.newarray .byte, 2) := by decide +kernel
theorem dX6_init_9 : decode cX6_init 9 = .ok (.putfield 11, 3) := by decide +kernel
theorem dX6_init_12 : decode cX6_init 12 = .ok (.aload_n 0, 1) := by decide +kernel
theorem dX6_init_13 : decode cX6_init 13 = .ok (.iconst 0, 1) := by decide +kernel
theorem dX6_init_14 : decode cX6_init 14 = .ok (.putfield 15, 3) := by decide +kernel
theorem dX6_init_17 : decode cX6_init 17 = .ok (.return_, 1) := by decide +kernel
theorem dX6_append_0 : decode cX6_append 0 = .ok (.aload_n 0, 1) := by decide +kernel
theorem dX6_append_1 : decode cX6_append 1 = .ok (.getfield 15, 3) := by decide +kernel
theorem dX6_append_4 : decode cX6_append 4 = .ok (.bipush 100, 2) := by decide +kernel
theorem dX6_append_6 : decode cX6_append 6 = .ok (.if_icmp .lt 6, 3) := by decide +kernel
theorem dX6_append_9 : decode cX6_append 9 = .ok (.bipush (-4), 2) := by decide +kernel
theorem dX6_append_11 : decode cX6_append 11 = .ok (.ireturn, 1) := by decide +kernel
theorem dX6_append_12 : decode cX6_append 12 = .ok (.aload_n 0, 1) := by decide +kernel
theorem dX6_append_13 : decode cX6_append 13 = .ok (.getfield 11, 3) := by decide +kernel
theorem dX6_append_16 : decode cX6_append 16 = .ok (.aload_n 0, 1) := by decide +kernel
theorem dX6_append_17 : decode cX6_append 17 = .ok (.getfield 15, 3) := by decide +kernel
theorem dX6_append_20 : decode cX6_append 20 = .ok (.iload_n 1, 1) := by decide +kernel
theorem dX6_append_21 : decode cX6_append 21 = .ok (.i2b, 1) := by decide +kernel
theorem dX6_append_22 : decode cX6_append 22 = .ok (.bastore, 1) := by decide +kernel
theorem dX6_append_23 : decode cX6_append 23 = .ok (.aload_n 0, 1) := by decide +kernel
theorem dX6_append_24 : decode cX6_append 24 = .ok (.dup, 1) := by decide +kernel
theorem dX6_append_25 : decode cX6_append 25 = .ok (.getfield 15, 3) := by decide +kernel
theorem dX6_append_28 : decode cX6_append 28 = .ok (.iconst 1, 1) := by decide +kernel
theorem dX6_append_29 : decode cX6_append 29 = .ok (.iadd, 1) := by decide +kernel
theorem dX6_append_30 : decode cX6_append 30 = .ok (.putfield 15, 3) := by decide +kernel
theorem dX6_append_33 : decode cX6_append 33 = .ok (.aload_n 0, 1) := by decide +kernel
theorem dX6_append_34 : decode cX6_append 34 = .ok (.getfield 15, 3) := by decide +kernel
theorem dX6_append_37 : decode cX6_append 37 = .ok (.ireturn, 1) := by decide +kernel
theorem dX6_signAt_0 : decode cX6_signAt 0 = .ok (.iload_n 1, 1) := by decide +kernel
theorem dX6_signAt_1 : decode cX6_signAt 1 = .ok (.ifCond .lt 26, 3) := by decide +kernel
theorem dX6_signAt_4 : decode cX6_signAt 4 = .ok (.iload_n 1, 1) := by decide +kernel
theorem dX6_signAt_5 : decode cX6_signAt 5 = .ok (.aload_n 0, 1) := by decide +kernel
theorem dX6_signAt_6 : decode cX6_signAt 6 = .ok (.getfield 15, 3) := by decide +kernel
theorem dX6_signAt_9 : decode cX6_signAt 9 = .ok (.if_icmp .ge 18, 3) := by decide +kernel
theorem dX6_signAt_12 : decode cX6_signAt 12 = .ok (.iload_n 1, 1) := by decide +kernel
theorem dX6_signAt_13 : decode cX6_signAt 13 = .ok (.bipush 100, 2) := by decide +kernel
theorem dX6_signAt_15 : decode cX6_signAt 15 = .ok (.if_icmp .ge 12, 3) := by decide +kernel
theorem dX6_signAt_18 : decode cX6_signAt 18 = .ok (.aload_n 0, 1) := by decide +kernel
theorem dX6_signAt_19 : decode cX6_signAt 19 = .ok (.getfield 11, 3) := by decide +kernel
theorem dX6_signAt_22 : decode cX6_signAt 22 = .ok (.iload_n 1, 1) := by decide +kernel
theorem dX6_signAt_23 : decode cX6_signAt 23 = .ok (.baload, 1) := by decide +kernel
theorem dX6_signAt_24 : decode cX6_signAt 24 = .ok (.goto 4, 3) := by decide +kernel
theorem dX6_signAt_27 : decode cX6_signAt 27 = .ok (.iconst (-1), 1) := by decide +kernel
theorem dX6_signAt_28 : decode cX6_signAt 28 = .ok (.ireturn, 1) := by decide +kernel
theorem dX6_mostDigits_0 : decode cX6_mostDigits 0 = .ok (.iload_n 0, 1) := by decide +kernel
theorem dX6_mostDigits_1 : decode cX6_mostDigits 1 = .ok (.lookupswitch 82 #[(43, 75), (45, 75), (102, 80), (105, 80), (107, 80), (109, 78), (111, 80), (117, 80)], 75) := by decide +kernel
theorem dX6_mostDigits_76 : decode cX6_mostDigits 76 = .ok (.bipush 8, 2) := by decide +kernel
theorem dX6_mostDigits_78 : decode cX6_mostDigits 78 = .ok (.ireturn, 1) := by decide +kernel
theorem dX6_mostDigits_79 : decode cX6_mostDigits 79 = .ok (.iconst 2, 1) := by decide +kernel
theorem dX6_mostDigits_80 : decode cX6_mostDigits 80 = .ok (.ireturn, 1) := by decide +kernel
theorem dX6_mostDigits_81 : decode cX6_mostDigits 81 = .ok (.iconst 0, 1) := by decide +kernel
theorem dX6_mostDigits_82 : decode cX6_mostDigits 82 = .ok (.ireturn, 1) := by decide +kernel
theorem dX6_mostDigits_83 : decode cX6_mostDigits 83 = .ok (.iconst (-1), 1) := by decide +kernel
theorem dX6_mostDigits_84 : decode cX6_mostDigits 84 = .ok (.ireturn, 1) := by decide +kernel
theorem dX6_digitsFrom_0 : decode cX6_digitsFrom 0 = .ok (.iconst 0, 1) := by decide +kernel
theorem dX6_digitsFrom_1 : decode cX6_digitsFrom 1 = .ok (.istore_n 3, 1) := by decide +kernel
theorem dX6_digitsFrom_2 : decode cX6_digitsFrom 2 = .ok (.iload_n 3, 1) := by decide +kernel
theorem dX6_digitsFrom_3 : decode cX6_digitsFrom 3 = .ok (.iload_n 2, 1) := by decide +kernel
theorem dX6_digitsFrom_4 : decode cX6_digitsFrom 4 = .ok (.if_icmp .ge 33, 3) := by decide +kernel
theorem dX6_digitsFrom_7 : decode cX6_digitsFrom 7 = .ok (.aload_n 0, 1) := by decide +kernel
theorem dX6_digitsFrom_8 : decode cX6_digitsFrom 8 = .ok (.iload_n 1, 1) := by decide +kernel
theorem dX6_digitsFrom_9 : decode cX6_digitsFrom 9 = .ok (.iload_n 3, 1) := by decide +kernel
theorem dX6_digitsFrom_10 : decode cX6_digitsFrom 10 = .ok (.iadd, 1) := by decide +kernel
theorem dX6_digitsFrom_11 : decode cX6_digitsFrom 11 = .ok (.invokevirtual 19, 3) := by decide +kernel
theorem dX6_digitsFrom_14 : decode cX6_digitsFrom 14 = .ok (.bipush 48, 2) := by decide +kernel
theorem dX6_digitsFrom_16 : decode cX6_digitsFrom 16 = .ok (.if_icmp .lt 21, 3) := by decide +kernel
theorem dX6_digitsFrom_19 : decode cX6_digitsFrom 19 = .ok (.aload_n 0, 1) := by decide +kernel
theorem dX6_digitsFrom_20 : decode cX6_digitsFrom 20 = .ok (.iload_n 1, 1) := by decide +kernel
theorem dX6_digitsFrom_21 : decode cX6_digitsFrom 21 = .ok (.iload_n 3, 1) := by decide +kernel
theorem dX6_digitsFrom_22 : decode cX6_digitsFrom 22 = .ok (.iadd, 1) := by decide +kernel
theorem dX6_digitsFrom_23 : decode cX6_digitsFrom 23 = .ok (.invokevirtual 19, 3) := by decide +kernel
theorem dX6_digitsFrom_26 : decode cX6_digitsFrom 26 = .ok (.bipush 57, 2) := by decide +kernel
theorem dX6_digitsFrom_28 : decode cX6_digitsFrom 28 = .ok (.if_icmp .gt 9, 3) := by decide +kernel
theorem dX6_digitsFrom_31 : decode cX6_digitsFrom 31 = .ok (.iinc 3 1, 3) := by decide +kernel
theorem dX6_digitsFrom_34 : decode cX6_digitsFrom 34 = .ok (.goto (-32), 3) := by decide +kernel
theorem dX6_digitsFrom_37 : decode cX6_digitsFrom 37 = .ok (.iload_n 3, 1) := by decide +kernel
theorem dX6_digitsFrom_38 : decode cX6_digitsFrom 38 = .ok (.ireturn, 1) := by decide +kernel
theorem dX6_firstFault_0 : decode cX6_firstFault 0 = .ok (.iconst 0, 1) := by decide +kernel
theorem dX6_firstFault_1 : decode cX6_firstFault 1 = .ok (.istore_n 1, 1) := by decide +kernel
theorem dX6_firstFault_2 : decode cX6_firstFault 2 = .ok (.iconst 1, 1) := by decide +kernel
theorem dX6_firstFault_3 : decode cX6_firstFault 3 = .ok (.istore_n 2, 1) := by decide +kernel
theorem dX6_firstFault_4 : decode cX6_firstFault 4 = .ok (.iload_n 2, 1) := by decide +kernel
theorem dX6_firstFault_5 : decode cX6_firstFault 5 = .ok (.bipush 12, 2) := by decide +kernel
theorem dX6_firstFault_7 : decode cX6_firstFault 7 = .ok (.if_icmp .gt 78, 3) := by decide +kernel
theorem dX6_firstFault_10 : decode cX6_firstFault 10 = .ok (.aload_n 0, 1) := by decide +kernel
theorem dX6_firstFault_11 : decode cX6_firstFault 11 = .ok (.iload_n 1, 1) := by decide +kernel
theorem dX6_firstFault_12 : decode cX6_firstFault 12 = .ok (.invokevirtual 19, 3) := by decide +kernel
theorem dX6_firstFault_15 : decode cX6_firstFault 15 = .ok (.invokestatic 23, 3) := by decide +kernel
theorem dX6_firstFault_18 : decode cX6_firstFault 18 = .ok (.istore_n 3, 1) := by decide +kernel
theorem dX6_firstFault_19 : decode cX6_firstFault 19 = .ok (.iload_n 3, 1) := by decide +kernel
theorem dX6_firstFault_20 : decode cX6_firstFault 20 = .ok (.iconst (-1), 1) := by decide +kernel
theorem dX6_firstFault_21 : decode cX6_firstFault 21 = .ok (.if_icmp .ne 5, 3) := by decide +kernel
theorem dX6_firstFault_24 : decode cX6_firstFault 24 = .ok (.iload_n 1, 1) := by decide +kernel
theorem dX6_firstFault_25 : decode cX6_firstFault 25 = .ok (.ireturn, 1) := by decide +kernel
theorem dX6_firstFault_26 : decode cX6_firstFault 26 = .ok (.aload_n 0, 1) := by decide +kernel
theorem dX6_firstFault_27 : decode cX6_firstFault 27 = .ok (.iload_n 1, 1) := by decide +kernel
theorem dX6_firstFault_28 : decode cX6_firstFault 28 = .ok (.iconst 1, 1) := by decide +kernel
theorem dX6_firstFault_29 : decode cX6_firstFault 29 = .ok (.iadd, 1) := by decide +kernel
theorem dX6_firstFault_30 : decode cX6_firstFault 30 = .ok (.iload_n 3, 1) := by decide +kernel
theorem dX6_firstFault_31 : decode cX6_firstFault 31 = .ok (.invokevirtual 26, 3) := by decide +kernel
theorem dX6_firstFault_34 : decode cX6_firstFault 34 = .ok (.istore 4, 2) := by decide +kernel
theorem dX6_firstFault_36 : decode cX6_firstFault 36 = .ok (.iload_n 1, 1) := by decide +kernel
theorem dX6_firstFault_37 : decode cX6_firstFault 37 = .ok (.iconst 1, 1) := by decide +kernel
theorem dX6_firstFault_38 : decode cX6_firstFault 38 = .ok (.iload 4, 2) := by decide +kernel
theorem dX6_firstFault_40 : decode cX6_firstFault 40 = .ok (.iadd, 1) := by decide +kernel
theorem dX6_firstFault_41 : decode cX6_firstFault 41 = .ok (.iadd, 1) := by decide +kernel
theorem dX6_firstFault_42 : decode cX6_firstFault 42 = .ok (.istore_n 1, 1) := by decide +kernel
theorem dX6_firstFault_43 : decode cX6_firstFault 43 = .ok (.iload_n 3, 1) := by decide +kernel
theorem dX6_firstFault_44 : decode cX6_firstFault 44 = .ok (.ifCond .le 10, 3) := by decide +kernel
theorem dX6_firstFault_47 : decode cX6_firstFault 47 = .ok (.iload 4, 2) := by decide +kernel
theorem dX6_firstFault_49 : decode cX6_firstFault 49 = .ok (.ifCond .ne 5, 3) := by decide +kernel
theorem dX6_firstFault_52 : decode cX6_firstFault 52 = .ok (.iload_n 1, 1) := by decide +kernel
theorem dX6_firstFault_53 : decode cX6_firstFault 53 = .ok (.ireturn, 1) := by decide +kernel
theorem dX6_firstFault_54 : decode cX6_firstFault 54 = .ok (.iload_n 1, 1) := by decide +kernel
theorem dX6_firstFault_55 : decode cX6_firstFault 55 = .ok (.aload_n 0, 1) := by decide +kernel
theorem dX6_firstFault_56 : decode cX6_firstFault 56 = .ok (.getfield 15, 3) := by decide +kernel
theorem dX6_firstFault_59 : decode cX6_firstFault 59 = .ok (.if_icmp .lt 5, 3) := by decide +kernel
theorem dX6_firstFault_62 : decode cX6_firstFault 62 = .ok (.iconst (-1), 1) := by decide +kernel
theorem dX6_firstFault_63 : decode cX6_firstFault 63 = .ok (.ireturn, 1) := by decide +kernel
theorem dX6_firstFault_64 : decode cX6_firstFault 64 = .ok (.aload_n 0, 1) := by decide +kernel
theorem dX6_firstFault_65 : decode cX6_firstFault 65 = .ok (.iload_n 1, 1) := by decide +kernel
theorem dX6_firstFault_66 : decode cX6_firstFault 66 = .ok (.invokevirtual 19, 3) := by decide +kernel
theorem dX6_firstFault_69 : decode cX6_firstFault 69 = .ok (.bipush 59, 2) := by decide +kernel
theorem dX6_firstFault_71 : decode cX6_firstFault 71 = .ok (.if_icmp .eq 5, 3) := by decide +kernel
theorem dX6_firstFault_74 : decode cX6_firstFault 74 = .ok (.iload_n 1, 1) := by decide +kernel
theorem dX6_firstFault_75 : decode cX6_firstFault 75 = .ok (.ireturn, 1) := by decide +kernel
theorem dX6_firstFault_76 : decode cX6_firstFault 76 = .ok (.iinc 1 1, 3) := by decide +kernel
theorem dX6_firstFault_79 : decode cX6_firstFault 79 = .ok (.iinc 2 1, 3) := by decide +kernel
theorem dX6_firstFault_82 : decode cX6_firstFault 82 = .ok (.goto (-78), 3) := by decide +kernel
theorem dX6_firstFault_85 : decode cX6_firstFault 85 = .ok (.iload_n 1, 1) := by decide +kernel
theorem dX6_firstFault_86 : decode cX6_firstFault 86 = .ok (.iconst 1, 1) := by decide +kernel
theorem dX6_firstFault_87 : decode cX6_firstFault 87 = .ok (.isub, 1) := by decide +kernel
theorem dX6_firstFault_88 : decode cX6_firstFault 88 = .ok (.ireturn, 1) := by decide +kernel
theorem dX6_perform_0 : decode cX6_perform 0 = .ok (.iconst 0, 1) := by decide +kernel
theorem dX6_perform_1 : decode cX6_perform 1 = .ok (.istore_n 2, 1) := by decide +kernel
theorem dX6_perform_2 : decode cX6_perform 2 = .ok (.iconst 0, 1) := by decide +kernel
theorem dX6_perform_3 : decode cX6_perform 3 = .ok (.istore_n 3, 1) := by decide +kernel
theorem dX6_perform_4 : decode cX6_perform 4 = .ok (.iconst 0, 1) := by decide +kernel
theorem dX6_perform_5 : decode cX6_perform 5 = .ok (.istore 4, 2) := by decide +kernel
theorem dX6_perform_7 : decode cX6_perform 7 = .ok (.iload 4, 2) := by decide +kernel
theorem dX6_perform_9 : decode cX6_perform 9 = .ok (.bipush 12, 2) := by decide +kernel
theorem dX6_perform_11 : decode cX6_perform 11 = .ok (.if_icmp .ge 63, 3) := by decide +kernel
theorem dX6_perform_14 : decode cX6_perform 14 = .ok (.iload_n 3, 1) := by decide +kernel
theorem dX6_perform_15 : decode cX6_perform 15 = .ok (.aload_n 0, 1) := by decide +kernel
theorem dX6_perform_16 : decode cX6_perform 16 = .ok (.getfield 15, 3) := by decide +kernel
theorem dX6_perform_19 : decode cX6_perform 19 = .ok (.if_icmp .ge 55, 3) := by decide +kernel
theorem dX6_perform_22 : decode cX6_perform 22 = .ok (.aload_n 0, 1) := by decide +kernel
theorem dX6_perform_23 : decode cX6_perform 23 = .ok (.iload_n 3, 1) := by decide +kernel
theorem dX6_perform_24 : decode cX6_perform 24 = .ok (.invokevirtual 19, 3) := by decide +kernel
theorem dX6_perform_27 : decode cX6_perform 27 = .ok (.istore 5, 2) := by decide +kernel
theorem dX6_perform_29 : decode cX6_perform 29 = .ok (.aload_n 0, 1) := by decide +kernel
theorem dX6_perform_30 : decode cX6_perform 30 = .ok (.iload_n 3, 1) := by decide +kernel
theorem dX6_perform_31 : decode cX6_perform 31 = .ok (.iconst 1, 1) := by decide +kernel
theorem dX6_perform_32 : decode cX6_perform 32 = .ok (.iadd, 1) := by decide +kernel
theorem dX6_perform_33 : decode cX6_perform 33 = .ok (.iload 5, 2) := by decide +kernel
theorem dX6_perform_35 : decode cX6_perform 35 = .ok (.invokestatic 23, 3) := by decide +kernel
theorem dX6_perform_38 : decode cX6_perform 38 = .ok (.invokevirtual 26, 3) := by decide +kernel
theorem dX6_perform_41 : decode cX6_perform 41 = .ok (.istore 6, 2) := by decide +kernel
theorem dX6_perform_43 : decode cX6_perform 43 = .ok (.aload_n 0, 1) := by decide +kernel
theorem dX6_perform_44 : decode cX6_perform 44 = .ok (.aload_n 1, 1) := by decide +kernel
theorem dX6_perform_45 : decode cX6_perform 45 = .ok (.iload 5, 2) := by decide +kernel
theorem dX6_perform_47 : decode cX6_perform 47 = .ok (.iload_n 3, 1) := by decide +kernel
theorem dX6_perform_48 : decode cX6_perform 48 = .ok (.iconst 1, 1) := by decide +kernel
theorem dX6_perform_49 : decode cX6_perform 49 = .ok (.iadd, 1) := by decide +kernel
theorem dX6_perform_50 : decode cX6_perform 50 = .ok (.iload 6, 2) := by decide +kernel
theorem dX6_perform_52 : decode cX6_perform 52 = .ok (.invokevirtual 30, 3) := by decide +kernel
theorem dX6_perform_55 : decode cX6_perform 55 = .ok (.ifCond .eq 6, 3) := by decide +kernel
theorem dX6_perform_58 : decode cX6_perform 58 = .ok (.iinc 2 1, 3) := by decide +kernel
theorem dX6_perform_61 : decode cX6_perform 61 = .ok (.iload_n 3, 1) := by decide +kernel
theorem dX6_perform_62 : decode cX6_perform 62 = .ok (.iload 6, 2) := by decide +kernel
theorem dX6_perform_64 : decode cX6_perform 64 = .ok (.iconst 2, 1) := by decide +kernel
theorem dX6_perform_65 : decode cX6_perform 65 = .ok (.iadd, 1) := by decide +kernel
theorem dX6_perform_66 : decode cX6_perform 66 = .ok (.iadd, 1) := by decide +kernel
theorem dX6_perform_67 : decode cX6_perform 67 = .ok (.istore_n 3, 1) := by decide +kernel
theorem dX6_perform_68 : decode cX6_perform 68 = .ok (.iinc 4 1, 3) := by decide +kernel
theorem dX6_perform_71 : decode cX6_perform 71 = .ok (.goto (-64), 3) := by decide +kernel
theorem dX6_perform_74 : decode cX6_perform 74 = .ok (.iload_n 2, 1) := by decide +kernel
theorem dX6_perform_75 : decode cX6_perform 75 = .ok (.ireturn, 1) := by decide +kernel
theorem dX6_performClause_0 : decode cX6_performClause 0 = .ok (.iload_n 2, 1) := by decide +kernel
theorem dX6_performClause_1 : decode cX6_performClause 1 = .ok (.lookupswitch 148 #[(43, 75), (45, 75), (102, 110), (105, 141), (107, 124), (109, 98), (111, 117), (117, 134)], 75) := by decide +kernel
theorem dX6_performClause_76 : decode cX6_performClause 76 = .ok (.aload_n 1, 1) := by decide +kernel
theorem dX6_performClause_77 : decode cX6_performClause 77 = .ok (.iload_n 2, 1) := by decide +kernel
theorem dX6_performClause_78 : decode cX6_performClause 78 = .ok (.bipush 43, 2) := by decide +kernel
theorem dX6_performClause_80 : decode cX6_performClause 80 = .ok (.if_icmp .ne 7, 3) := by decide +kernel
theorem dX6_performClause_83 : decode cX6_performClause 83 = .ok (.iconst 1, 1) := by decide +kernel
theorem dX6_performClause_84 : decode cX6_performClause 84 = .ok (.goto 4, 3) := by decide +kernel
theorem dX6_performClause_87 : decode cX6_performClause 87 = .ok (.iconst 0, 1) := by decide +kernel
theorem dX6_performClause_88 : decode cX6_performClause 88 = .ok (.aload_n 0, 1) := by decide +kernel
theorem dX6_performClause_89 : decode cX6_performClause 89 = .ok (.iload_n 3, 1) := by decide +kernel
theorem dX6_performClause_90 : decode cX6_performClause 90 = .ok (.iload 4, 2) := by decide +kernel
theorem dX6_performClause_92 : decode cX6_performClause 92 = .ok (.invokevirtual 34, 3) := by decide +kernel
theorem dX6_performClause_95 : decode cX6_performClause 95 = .ok (.invokestatic 37, 3) := by decide +kernel
theorem dX6_performClause_98 : decode cX6_performClause 98 = .ok (.ireturn, 1) := by decide +kernel
theorem dX6_performClause_99 : decode cX6_performClause 99 = .ok (.aload_n 1, 1) := by decide +kernel
theorem dX6_performClause_100 : decode cX6_performClause 100 = .ok (.aload_n 0, 1) := by decide +kernel
theorem dX6_performClause_101 : decode cX6_performClause 101 = .ok (.iload_n 3, 1) := by decide +kernel
theorem dX6_performClause_102 : decode cX6_performClause 102 = .ok (.iload 4, 2) := by decide +kernel
theorem dX6_performClause_104 : decode cX6_performClause 104 = .ok (.invokevirtual 41, 3) := by decide +kernel
theorem dX6_performClause_107 : decode cX6_performClause 107 = .ok (.invokestatic 44, 3) := by decide +kernel
theorem dX6_performClause_110 : decode cX6_performClause 110 = .ok (.ireturn, 1) := by decide +kernel
theorem dX6_performClause_111 : decode cX6_performClause 111 = .ok (.aload_n 1, 1) := by decide +kernel
theorem dX6_performClause_112 : decode cX6_performClause 112 = .ok (.iconst 0, 1) := by decide +kernel
theorem dX6_performClause_113 : decode cX6_performClause 113 = .ok (.invokevirtual 50, 3) := by decide +kernel
theorem dX6_performClause_116 : decode cX6_performClause 116 = .ok (.iconst 1, 1) := by decide +kernel
theorem dX6_performClause_117 : decode cX6_performClause 117 = .ok (.ireturn, 1) := by decide +kernel
theorem dX6_performClause_118 : decode cX6_performClause 118 = .ok (.aload_n 1, 1) := by decide +kernel
theorem dX6_performClause_119 : decode cX6_performClause 119 = .ok (.iconst 1, 1) := by decide +kernel
theorem dX6_performClause_120 : decode cX6_performClause 120 = .ok (.invokevirtual 50, 3) := by decide +kernel
theorem dX6_performClause_123 : decode cX6_performClause 123 = .ok (.iconst 1, 1) := by decide +kernel
theorem dX6_performClause_124 : decode cX6_performClause 124 = .ok (.ireturn, 1) := by decide +kernel
theorem dX6_performClause_125 : decode cX6_performClause 125 = .ok (.aload_n 1, 1) := by decide +kernel
theorem dX6_performClause_126 : decode cX6_performClause 126 = .ok (.aload_n 1, 1) := by decide +kernel
theorem dX6_performClause_127 : decode cX6_performClause 127 = .ok (.getfield 54, 3) := by decide +kernel
theorem dX6_performClause_130 : decode cX6_performClause 130 = .ok (.putfield 57, 3) := by decide +kernel
theorem dX6_performClause_133 : decode cX6_performClause 133 = .ok (.iconst 1, 1) := by decide +kernel
theorem dX6_performClause_134 : decode cX6_performClause 134 = .ok (.ireturn, 1) := by decide +kernel
theorem dX6_performClause_135 : decode cX6_performClause 135 = .ok (.aload_n 1, 1) := by decide +kernel
theorem dX6_performClause_136 : decode cX6_performClause 136 = .ok (.iconst 2, 1) := by decide +kernel
theorem dX6_performClause_137 : decode cX6_performClause 137 = .ok (.invokevirtual 50, 3) := by decide +kernel
theorem dX6_performClause_140 : decode cX6_performClause 140 = .ok (.iconst 1, 1) := by decide +kernel
theorem dX6_performClause_141 : decode cX6_performClause 141 = .ok (.ireturn, 1) := by decide +kernel
theorem dX6_performClause_142 : decode cX6_performClause 142 = .ok (.aload_n 1, 1) := by decide +kernel
theorem dX6_performClause_143 : decode cX6_performClause 143 = .ok (.iconst 3, 1) := by decide +kernel
theorem dX6_performClause_144 : decode cX6_performClause 144 = .ok (.invokevirtual 50, 3) := by decide +kernel
theorem dX6_performClause_147 : decode cX6_performClause 147 = .ok (.iconst 1, 1) := by decide +kernel
theorem dX6_performClause_148 : decode cX6_performClause 148 = .ok (.ireturn, 1) := by decide +kernel
theorem dX6_performClause_149 : decode cX6_performClause 149 = .ok (.iconst 0, 1) := by decide +kernel
theorem dX6_performClause_150 : decode cX6_performClause 150 = .ok (.ireturn, 1) := by decide +kernel
theorem dX6_performCorners_0 : decode cX6_performCorners 0 = .ok (.iload_n 2, 1) := by decide +kernel
theorem dX6_performCorners_1 : decode cX6_performCorners 1 = .ok (.iconst (-1), 1) := by decide +kernel
theorem dX6_performCorners_2 : decode cX6_performCorners 2 = .ok (.if_icmp .ne 5, 3) := by decide +kernel
theorem dX6_performCorners_5 : decode cX6_performCorners 5 = .ok (.iconst 0, 1) := by decide +kernel
theorem dX6_performCorners_6 : decode cX6_performCorners 6 = .ok (.ireturn, 1) := by decide +kernel
theorem dX6_performCorners_7 : decode cX6_performCorners 7 = .ok (.aload_n 0, 1) := by decide +kernel
theorem dX6_performCorners_8 : decode cX6_performCorners 8 = .ok (.iload_n 1, 1) := by decide +kernel
theorem dX6_performCorners_9 : decode cX6_performCorners 9 = .ok (.ifCond .eq 12, 3) := by decide +kernel
theorem dX6_performCorners_12 : decode cX6_performCorners 12 = .ok (.aload_n 0, 1) := by decide +kernel
theorem dX6_performCorners_13 : decode cX6_performCorners 13 = .ok (.getfield 54, 3) := by decide +kernel
theorem dX6_performCorners_16 : decode cX6_performCorners 16 = .ok (.iload_n 2, 1) := by decide +kernel
theorem dX6_performCorners_17 : decode cX6_performCorners 17 = .ok (.ior, 1) := by decide +kernel
theorem dX6_performCorners_18 : decode cX6_performCorners 18 = .ok (.goto 11, 3) := by decide +kernel
theorem dX6_performCorners_21 : decode cX6_performCorners 21 = .ok (.aload_n 0, 1) := by decide +kernel
theorem dX6_performCorners_22 : decode cX6_performCorners 22 = .ok (.getfield 54, 3) := by decide +kernel
theorem dX6_performCorners_25 : decode cX6_performCorners 25 = .ok (.iload_n 2, 1) := by decide +kernel
theorem dX6_performCorners_26 : decode cX6_performCorners 26 = .ok (.iconst (-1), 1) := by decide +kernel
theorem dX6_performCorners_27 : decode cX6_performCorners 27 = .ok (.ixor, 1) := by decide +kernel
theorem dX6_performCorners_28 : decode cX6_performCorners 28 = .ok (.iand, 1) := by decide +kernel
theorem dX6_performCorners_29 : decode cX6_performCorners 29 = .ok (.putfield 54, 3) := by decide +kernel
theorem dX6_performCorners_32 : decode cX6_performCorners 32 = .ok (.iconst 1, 1) := by decide +kernel
theorem dX6_performCorners_33 : decode cX6_performCorners 33 = .ok (.ireturn, 1) := by decide +kernel
theorem dX6_performMove_0 : decode cX6_performMove 0 = .ok (.iload_n 1, 1) := by decide +kernel
theorem dX6_performMove_1 : decode cX6_performMove 1 = .ok (.invokestatic 60, 3) := by decide +kernel
theorem dX6_performMove_4 : decode cX6_performMove 4 = .ok (.ifCond .ne 5, 3) := by decide +kernel
theorem dX6_performMove_7 : decode cX6_performMove 7 = .ok (.iconst 0, 1) := by decide +kernel
theorem dX6_performMove_8 : decode cX6_performMove 8 = .ok (.ireturn, 1) := by decide +kernel
theorem dX6_performMove_9 : decode cX6_performMove 9 = .ok (.aload_n 0, 1) := by decide +kernel
theorem dX6_performMove_10 : decode cX6_performMove 10 = .ok (.iload_n 1, 1) := by decide +kernel
theorem dX6_performMove_11 : decode cX6_performMove 11 = .ok (.aload_n 0, 1) := by decide +kernel
theorem dX6_performMove_12 : decode cX6_performMove 12 = .ok (.getfield 54, 3) := by decide +kernel
theorem dX6_performMove_15 : decode cX6_performMove 15 = .ok (.invokestatic 64, 3) := by decide +kernel
theorem dX6_performMove_18 : decode cX6_performMove 18 = .ok (.putfield 54, 3) := by decide +kernel
theorem dX6_performMove_21 : decode cX6_performMove 21 = .ok (.iconst 1, 1) := by decide +kernel
theorem dX6_performMove_22 : decode cX6_performMove 22 = .ok (.ireturn, 1) := by decide +kernel
theorem dX6_cornersAt_0 : decode cX6_cornersAt 0 = .ok (.iconst 0, 1) := by decide +kernel
theorem dX6_cornersAt_1 : decode cX6_cornersAt 1 = .ok (.istore_n 3, 1) := by decide +kernel
theorem dX6_cornersAt_2 : decode cX6_cornersAt 2 = .ok (.iconst 0, 1) := by decide +kernel
theorem dX6_cornersAt_3 : decode cX6_cornersAt 3 = .ok (.istore 4, 2) := by decide +kernel
theorem dX6_cornersAt_5 : decode cX6_cornersAt 5 = .ok (.iload 4, 2) := by decide +kernel
theorem dX6_cornersAt_7 : decode cX6_cornersAt 7 = .ok (.iload_n 2, 1) := by decide +kernel
theorem dX6_cornersAt_8 : decode cX6_cornersAt 8 = .ok (.if_icmp .ge 39, 3) := by decide +kernel
theorem dX6_cornersAt_11 : decode cX6_cornersAt 11 = .ok (.aload_n 0, 1) := by decide +kernel
theorem dX6_cornersAt_12 : decode cX6_cornersAt 12 = .ok (.iload_n 1, 1) := by decide +kernel
theorem dX6_cornersAt_13 : decode cX6_cornersAt 13 = .ok (.iload 4, 2) := by decide +kernel
theorem dX6_cornersAt_15 : decode cX6_cornersAt 15 = .ok (.iadd, 1) := by decide +kernel
theorem dX6_cornersAt_16 : decode cX6_cornersAt 16 = .ok (.invokevirtual 19, 3) := by decide +kernel
theorem dX6_cornersAt_19 : decode cX6_cornersAt 19 = .ok (.bipush 48, 2) := by decide +kernel
theorem dX6_cornersAt_21 : decode cX6_cornersAt 21 = .ok (.isub, 1) := by decide +kernel
theorem dX6_cornersAt_22 : decode cX6_cornersAt 22 = .ok (.istore 5, 2) := by decide +kernel
theorem dX6_cornersAt_24 : decode cX6_cornersAt 24 = .ok (.iload 5, 2) := by decide +kernel
theorem dX6_cornersAt_26 : decode cX6_cornersAt 26 = .ok (.invokestatic 69, 3) := by decide +kernel
theorem dX6_cornersAt_29 : decode cX6_cornersAt 29 = .ok (.ifCond .ne 5, 3) := by decide +kernel
theorem dX6_cornersAt_32 : decode cX6_cornersAt 32 = .ok (.iconst (-1), 1) := by decide +kernel
theorem dX6_cornersAt_33 : decode cX6_cornersAt 33 = .ok (.ireturn, 1) := by decide +kernel
theorem dX6_cornersAt_34 : decode cX6_cornersAt 34 = .ok (.iload_n 3, 1) := by decide +kernel
theorem dX6_cornersAt_35 : decode cX6_cornersAt 35 = .ok (.iconst 1, 1) := by decide +kernel
theorem dX6_cornersAt_36 : decode cX6_cornersAt 36 = .ok (.iload 5, 2) := by decide +kernel
theorem dX6_cornersAt_38 : decode cX6_cornersAt 38 = .ok (.ishl, 1) := by decide +kernel
theorem dX6_cornersAt_39 : decode cX6_cornersAt 39 = .ok (.ior, 1) := by decide +kernel
theorem dX6_cornersAt_40 : decode cX6_cornersAt 40 = .ok (.istore_n 3, 1) := by decide +kernel
theorem dX6_cornersAt_41 : decode cX6_cornersAt 41 = .ok (.iinc 4 1, 3) := by decide +kernel
theorem dX6_cornersAt_44 : decode cX6_cornersAt 44 = .ok (.goto (-39), 3) := by decide +kernel
theorem dX6_cornersAt_47 : decode cX6_cornersAt 47 = .ok (.iload_n 3, 1) := by decide +kernel
theorem dX6_cornersAt_48 : decode cX6_cornersAt 48 = .ok (.ireturn, 1) := by decide +kernel
theorem dX6_numberAt_0 : decode cX6_numberAt 0 = .ok (.iconst 0, 1) := by decide +kernel
theorem dX6_numberAt_1 : decode cX6_numberAt 1 = .ok (.istore_n 3, 1) := by decide +kernel
theorem dX6_numberAt_2 : decode cX6_numberAt 2 = .ok (.iconst 0, 1) := by decide +kernel
theorem dX6_numberAt_3 : decode cX6_numberAt 3 = .ok (.istore 4, 2) := by decide +kernel
theorem dX6_numberAt_5 : decode cX6_numberAt 5 = .ok (.iload 4, 2) := by decide +kernel
theorem dX6_numberAt_7 : decode cX6_numberAt 7 = .ok (.iload_n 2, 1) := by decide +kernel
theorem dX6_numberAt_8 : decode cX6_numberAt 8 = .ok (.if_icmp .ge 26, 3) := by decide +kernel
theorem dX6_numberAt_11 : decode cX6_numberAt 11 = .ok (.iload_n 3, 1) := by decide +kernel
theorem dX6_numberAt_12 : decode cX6_numberAt 12 = .ok (.bipush 10, 2) := by decide +kernel
theorem dX6_numberAt_14 : decode cX6_numberAt 14 = .ok (.imul, 1) := by decide +kernel
theorem dX6_numberAt_15 : decode cX6_numberAt 15 = .ok (.aload_n 0, 1) := by decide +kernel
theorem dX6_numberAt_16 : decode cX6_numberAt 16 = .ok (.iload_n 1, 1) := by decide +kernel
theorem dX6_numberAt_17 : decode cX6_numberAt 17 = .ok (.iload 4, 2) := by decide +kernel
theorem dX6_numberAt_19 : decode cX6_numberAt 19 = .ok (.iadd, 1) := by decide +kernel
theorem dX6_numberAt_20 : decode cX6_numberAt 20 = .ok (.invokevirtual 19, 3) := by decide +kernel
theorem dX6_numberAt_23 : decode cX6_numberAt 23 = .ok (.iadd, 1) := by decide +kernel
theorem dX6_numberAt_24 : decode cX6_numberAt 24 = .ok (.bipush 48, 2) := by decide +kernel
theorem dX6_numberAt_26 : decode cX6_numberAt 26 = .ok (.isub, 1) := by decide +kernel
theorem dX6_numberAt_27 : decode cX6_numberAt 27 = .ok (.istore_n 3, 1) := by decide +kernel
theorem dX6_numberAt_28 : decode cX6_numberAt 28 = .ok (.iinc 4 1, 3) := by decide +kernel
theorem dX6_numberAt_31 : decode cX6_numberAt 31 = .ok (.goto (-26), 3) := by decide +kernel
theorem dX6_numberAt_34 : decode cX6_numberAt 34 = .ok (.iload_n 3, 1) := by decide +kernel
theorem dX6_numberAt_35 : decode cX6_numberAt 35 = .ok (.ireturn, 1) := by decide +kernel
theorem dJxe99ae_isNaN_b9ae7_0 : decode cJxe99ae_isNaN_b9ae7 0 = .ok (.dload_n 0, 1) := by decide +kernel
theorem dJxe99ae_isNaN_b9ae7_1 : decode cJxe99ae_isNaN_b9ae7 1 = .ok (.dload_n 0, 1) := by decide +kernel
theorem dJxe99ae_isNaN_b9ae7_2 : decode cJxe99ae_isNaN_b9ae7 2 = .ok (.dcmp .l, 1) := by decide +kernel
theorem dJxe99ae_isNaN_b9ae7_3 : decode cJxe99ae_isNaN_b9ae7 3 = .ok (.ifCond .eq 7, 3) := by decide +kernel
theorem dJxe99ae_isNaN_b9ae7_6 : decode cJxe99ae_isNaN_b9ae7 6 = .ok (.iconst 1, 1) := by decide +kernel
theorem dJxe99ae_isNaN_b9ae7_7 : decode cJxe99ae_isNaN_b9ae7 7 = .ok (.goto 4, 3) := by decide +kernel
theorem dJxe99ae_isNaN_b9ae7_10 : decode cJxe99ae_isNaN_b9ae7 10 = .ok (.iconst 0, 1) := by decide +kernel
theorem dJxe99ae_isNaN_b9ae7_11 : decode cJxe99ae_isNaN_b9ae7 11 = .ok (.ireturn, 1) := by decide +kernel
theorem dJxe99ae_doubleToLongBits_ccdee_0 : decode cJxe99ae_doubleToLongBits_ccdee 0 = .ok (.dload_n 0, 1) := by decide +kernel
theorem dJxe99ae_doubleToLongBits_ccdee_1 : decode cJxe99ae_doubleToLongBits_ccdee 1 = .ok (.invokestatic 122, 3) := by decide +kernel
theorem dJxe99ae_doubleToLongBits_ccdee_4 : decode cJxe99ae_doubleToLongBits_ccdee 4 = .ok (.ifCond .ne 8, 3) := by decide +kernel
theorem dJxe99ae_doubleToLongBits_ccdee_7 : decode cJxe99ae_doubleToLongBits_ccdee 7 = .ok (.dload_n 0, 1) := by decide +kernel
theorem dJxe99ae_doubleToLongBits_ccdee_8 : decode cJxe99ae_doubleToLongBits_ccdee 8 = .ok (.invokestatic 134, 3) := by decide +kernel
theorem dJxe99ae_doubleToLongBits_ccdee_11 : decode cJxe99ae_doubleToLongBits_ccdee 11 = .ok (.lreturn, 1) := by decide +kernel
theorem dJxe99ae_doubleToLongBits_ccdee_12 : decode cJxe99ae_doubleToLongBits_ccdee 12 = .ok (.ldc2_w 137, 3) := by decide +kernel
theorem dJxe99ae_doubleToLongBits_ccdee_15 : decode cJxe99ae_doubleToLongBits_ccdee 15 = .ok (.lreturn, 1) := by decide +kernel
theorem dJxf58ca_isNaN_12338_0 : decode cJxf58ca_isNaN_12338 0 = .ok (.fload_n 0, 1) := by decide +kernel
theorem dJxf58ca_isNaN_12338_1 : decode cJxf58ca_isNaN_12338 1 = .ok (.fload_n 0, 1) := by decide +kernel
theorem dJxf58ca_isNaN_12338_2 : decode cJxf58ca_isNaN_12338 2 = .ok (.fcmp .l, 1) := by decide +kernel
theorem dJxf58ca_isNaN_12338_3 : decode cJxf58ca_isNaN_12338 3 = .ok (.ifCond .eq 7, 3) := by decide +kernel
theorem dJxf58ca_isNaN_12338_6 : decode cJxf58ca_isNaN_12338 6 = .ok (.iconst 1, 1) := by decide +kernel
theorem dJxf58ca_isNaN_12338_7 : decode cJxf58ca_isNaN_12338 7 = .ok (.goto 4, 3) := by decide +kernel
theorem dJxf58ca_isNaN_12338_10 : decode cJxf58ca_isNaN_12338 10 = .ok (.iconst 0, 1) := by decide +kernel
theorem dJxf58ca_isNaN_12338_11 : decode cJxf58ca_isNaN_12338 11 = .ok (.ireturn, 1) := by decide +kernel
theorem dJxf58ca_floatToIntBits_5c35a_0 : decode cJxf58ca_floatToIntBits_5c35a 0 = .ok (.fload_n 0, 1) := by decide +kernel
theorem dJxf58ca_floatToIntBits_5c35a_1 : decode cJxf58ca_floatToIntBits_5c35a 1 = .ok (.invokestatic 59, 3) := by decide +kernel
theorem dJxf58ca_floatToIntBits_5c35a_4 : decode cJxf58ca_floatToIntBits_5c35a 4 = .ok (.ifCond .ne 8, 3) := by decide +kernel
theorem dJxf58ca_floatToIntBits_5c35a_7 : decode cJxf58ca_floatToIntBits_5c35a 7 = .ok (.fload_n 0, 1) := by decide +kernel
theorem dJxf58ca_floatToIntBits_5c35a_8 : decode cJxf58ca_floatToIntBits_5c35a 8 = .ok (.invokestatic 74, 3) := by decide +kernel
theorem dJxf58ca_floatToIntBits_5c35a_11 : decode cJxf58ca_floatToIntBits_5c35a 11 = .ok (.ireturn, 1) := by decide +kernel
theorem dJxf58ca_floatToIntBits_5c35a_12 : decode cJxf58ca_floatToIntBits_5c35a 12 = .ok (.ldc 77, 2) := by decide +kernel
theorem dJxf58ca_floatToIntBits_5c35a_14 : decode cJxf58ca_floatToIntBits_5c35a 14 = .ok (.ireturn, 1) := by decide +kernel
theorem dJ6_bitCount_0f7a4_0 : decode cJ6_bitCount_0f7a4 0 = .ok (.iload_n 0, 1) := by decide +kernel
theorem dJ6_bitCount_0f7a4_1 : decode cJ6_bitCount_0f7a4 1 = .ok (.iload_n 0, 1) := by decide +kernel
theorem dJ6_bitCount_0f7a4_2 : decode cJ6_bitCount_0f7a4 2 = .ok (.iconst 1, 1) := by decide +kernel
theorem dJ6_bitCount_0f7a4_3 : decode cJ6_bitCount_0f7a4 3 = .ok (.iushr, 1) := by decide +kernel
theorem dJ6_bitCount_0f7a4_4 : decode cJ6_bitCount_0f7a4 4 = .ok (.ldc_w 265, 3) := by decide +kernel
theorem dJ6_bitCount_0f7a4_7 : decode cJ6_bitCount_0f7a4 7 = .ok (.iand, 1) := by decide +kernel
theorem dJ6_bitCount_0f7a4_8 : decode cJ6_bitCount_0f7a4 8 = .ok (.isub, 1) := by decide +kernel
theorem dJ6_bitCount_0f7a4_9 : decode cJ6_bitCount_0f7a4 9 = .ok (.istore_n 0, 1) := by decide +kernel
theorem dJ6_bitCount_0f7a4_10 : decode cJ6_bitCount_0f7a4 10 = .ok (.iload_n 0, 1) := by decide +kernel
theorem dJ6_bitCount_0f7a4_11 : decode cJ6_bitCount_0f7a4 11 = .ok (.ldc_w 266, 3) := by decide +kernel
theorem dJ6_bitCount_0f7a4_14 : decode cJ6_bitCount_0f7a4 14 = .ok (.iand, 1) := by decide +kernel
theorem dJ6_bitCount_0f7a4_15 : decode cJ6_bitCount_0f7a4 15 = .ok (.iload_n 0, 1) := by decide +kernel
theorem dJ6_bitCount_0f7a4_16 : decode cJ6_bitCount_0f7a4 16 = .ok (.iconst 2, 1) := by decide +kernel
theorem dJ6_bitCount_0f7a4_17 : decode cJ6_bitCount_0f7a4 17 = .ok (.iushr, 1) := by decide +kernel
theorem dJ6_bitCount_0f7a4_18 : decode cJ6_bitCount_0f7a4 18 = .ok (.ldc_w 266, 3) := by decide +kernel
theorem dJ6_bitCount_0f7a4_21 : decode cJ6_bitCount_0f7a4 21 = .ok (.iand, 1) := by decide +kernel
theorem dJ6_bitCount_0f7a4_22 : decode cJ6_bitCount_0f7a4 22 = .ok (.iadd, 1) := by decide +kernel
theorem dJ6_bitCount_0f7a4_23 : decode cJ6_bitCount_0f7a4 23 = .ok (.istore_n 0, 1) := by decide +kernel
theorem dJ6_bitCount_0f7a4_24 : decode cJ6_bitCount_0f7a4 24 = .ok (.iload_n 0, 1) := by decide +kernel
theorem dJ6_bitCount_0f7a4_25 : decode cJ6_bitCount_0f7a4 25 = .ok (.iload_n 0, 1) := by decide +kernel
theorem dJ6_bitCount_0f7a4_26 : decode cJ6_bitCount_0f7a4 26 = .ok (.iconst 4, 1) := by decide +kernel
theorem dJ6_bitCount_0f7a4_27 : decode cJ6_bitCount_0f7a4 27 = .ok (.iushr, 1) := by decide +kernel
theorem dJ6_bitCount_0f7a4_28 : decode cJ6_bitCount_0f7a4 28 = .ok (.iadd, 1) := by decide +kernel
theorem dJ6_bitCount_0f7a4_29 : decode cJ6_bitCount_0f7a4 29 = .ok (.ldc_w 267, 3) := by decide +kernel
theorem dJ6_bitCount_0f7a4_32 : decode cJ6_bitCount_0f7a4 32 = .ok (.iand, 1) := by decide +kernel
theorem dJ6_bitCount_0f7a4_33 : decode cJ6_bitCount_0f7a4 33 = .ok (.istore_n 0, 1) := by decide +kernel
theorem dJ6_bitCount_0f7a4_34 : decode cJ6_bitCount_0f7a4 34 = .ok (.iload_n 0, 1) := by decide +kernel
theorem dJ6_bitCount_0f7a4_35 : decode cJ6_bitCount_0f7a4 35 = .ok (.iload_n 0, 1) := by decide +kernel
theorem dJ6_bitCount_0f7a4_36 : decode cJ6_bitCount_0f7a4 36 = .ok (.bipush 8, 2) := by decide +kernel
theorem dJ6_bitCount_0f7a4_38 : decode cJ6_bitCount_0f7a4 38 = .ok (.iushr, 1) := by decide +kernel
theorem dJ6_bitCount_0f7a4_39 : decode cJ6_bitCount_0f7a4 39 = .ok (.iadd, 1) := by decide +kernel
theorem dJ6_bitCount_0f7a4_40 : decode cJ6_bitCount_0f7a4 40 = .ok (.istore_n 0, 1) := by decide +kernel
theorem dJ6_bitCount_0f7a4_41 : decode cJ6_bitCount_0f7a4 41 = .ok (.iload_n 0, 1) := by decide +kernel
theorem dJ6_bitCount_0f7a4_42 : decode cJ6_bitCount_0f7a4 42 = .ok (.iload_n 0, 1) := by decide +kernel
theorem dJ6_bitCount_0f7a4_43 : decode cJ6_bitCount_0f7a4 43 = .ok (.bipush 16, 2) := by decide +kernel
theorem dJ6_bitCount_0f7a4_45 : decode cJ6_bitCount_0f7a4 45 = .ok (.iushr, 1) := by decide +kernel
theorem dJ6_bitCount_0f7a4_46 : decode cJ6_bitCount_0f7a4 46 = .ok (.iadd, 1) := by decide +kernel
theorem dJ6_bitCount_0f7a4_47 : decode cJ6_bitCount_0f7a4 47 = .ok (.istore_n 0, 1) := by decide +kernel
theorem dJ6_bitCount_0f7a4_48 : decode cJ6_bitCount_0f7a4 48 = .ok (.iload_n 0, 1) := by decide +kernel
theorem dJ6_bitCount_0f7a4_49 : decode cJ6_bitCount_0f7a4 49 = .ok (.bipush 63, 2) := by decide +kernel
theorem dJ6_bitCount_0f7a4_51 : decode cJ6_bitCount_0f7a4 51 = .ok (.iand, 1) := by decide +kernel
theorem dJ6_bitCount_0f7a4_52 : decode cJ6_bitCount_0f7a4 52 = .ok (.ireturn, 1) := by decide +kernel
