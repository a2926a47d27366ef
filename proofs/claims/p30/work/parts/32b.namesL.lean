theorem dL_cell_0 : decode cL_cell 0 = .ok (.iload_n 1, 1) := by decide +kernel
theorem dL_cell_1 : decode cL_cell 1 = .ok (.aload_n 0, 1) := by decide +kernel
theorem dL_cell_2 : decode cL_cell 2 = .ok (.arraylength, 1) := by decide +kernel
theorem dL_cell_3 : decode cL_cell 3 = .ok (.if_icmp .ge 9, 3) := by decide +kernel
theorem dL_cell_6 : decode cL_cell 6 = .ok (.aload_n 0, 1) := by decide +kernel
theorem dL_cell_7 : decode cL_cell 7 = .ok (.iload_n 1, 1) := by decide +kernel
theorem dL_cell_8 : decode cL_cell 8 = .ok (.iaload, 1) := by decide +kernel
theorem dL_cell_9 : decode cL_cell 9 = .ok (.goto 13, 3) := by decide +kernel
theorem dL_cell_12 : decode cL_cell 12 = .ok (.ldc 151, 2) := by decide +kernel
theorem dL_cell_14 : decode cL_cell 14 = .ok (.iload_n 1, 1) := by decide +kernel
theorem dL_cell_15 : decode cL_cell 15 = .ok (.iconst 3, 1) := by decide +kernel
theorem dL_cell_16 : decode cL_cell 16 = .ok (.iadd, 1) := by decide +kernel
theorem dL_cell_17 : decode cL_cell 17 = .ok (.imul, 1) := by decide +kernel
theorem dL_cell_18 : decode cL_cell 18 = .ok (.sipush 10253, 3) := by decide +kernel
theorem dL_cell_21 : decode cL_cell 21 = .ok (.iadd, 1) := by decide +kernel
theorem dL_cell_22 : decode cL_cell 22 = .ok (.ldc 152, 2) := by decide +kernel
theorem dL_cell_24 : decode cL_cell 24 = .ok (.iand, 1) := by decide +kernel
theorem dL_cell_25 : decode cL_cell 25 = .ok (.ireturn, 1) := by decide +kernel
theorem dL_worth_0 : decode cL_worth 0 = .ok (.iload_n 0, 1) := by decide +kernel
theorem dL_worth_1 : decode cL_worth 1 = .ok (.iconst 3, 1) := by decide +kernel
theorem dL_worth_2 : decode cL_worth 2 = .ok (.if_icmp .ne 8, 3) := by decide +kernel
theorem dL_worth_5 : decode cL_worth 5 = .ok (.bipush 30, 2) := by decide +kernel
theorem dL_worth_7 : decode cL_worth 7 = .ok (.goto 19, 3) := by decide +kernel
theorem dL_worth_10 : decode cL_worth 10 = .ok (.iload_n 0, 1) := by decide +kernel
theorem dL_worth_11 : decode cL_worth 11 = .ok (.ifCond .eq 8, 3) := by decide +kernel
theorem dL_worth_14 : decode cL_worth 14 = .ok (.iload_n 0, 1) := by decide +kernel
theorem dL_worth_15 : decode cL_worth 15 = .ok (.iconst 2, 1) := by decide +kernel
theorem dL_worth_16 : decode cL_worth 16 = .ok (.if_icmp .ne 8, 3) := by decide +kernel
theorem dL_worth_19 : decode cL_worth 19 = .ok (.bipush 20, 2) := by decide +kernel
theorem dL_worth_21 : decode cL_worth 21 = .ok (.goto 5, 3) := by decide +kernel
theorem dL_worth_24 : decode cL_worth 24 = .ok (.bipush 10, 2) := by decide +kernel
theorem dL_worth_26 : decode cL_worth 26 = .ok (.ireturn, 1) := by decide +kernel
theorem dL_about_0 : decode cL_about 0 = .ok (.aload_n 0, 1) := by decide +kernel
theorem dL_about_1 : decode cL_about 1 = .ok (.iconst 2, 1) := by decide +kernel
theorem dL_about_2 : decode cL_about 2 = .ok (.iload_n 1, 1) := by decide +kernel
theorem dL_about_3 : decode cL_about 3 = .ok (.iconst 0, 1) := by decide +kernel
theorem dL_about_4 : decode cL_about 4 = .ok (.iconst 0, 1) := by decide +kernel
theorem dL_about_5 : decode cL_about 5 = .ok (.iconst 0, 1) := by decide +kernel
theorem dL_about_6 : decode cL_about 6 = .ok (.invokestatic 153, 3) := by decide +kernel
theorem dL_about_9 : decode cL_about 9 = .ok (.ireturn, 1) := by decide +kernel
theorem dL_dog_0 : decode cL_dog 0 = .ok (.aload_n 0, 1) := by decide +kernel
theorem dL_dog_1 : decode cL_dog 1 = .ok (.iconst 3, 1) := by decide +kernel
theorem dL_dog_2 : decode cL_dog 2 = .ok (.iload_n 1, 1) := by decide +kernel
theorem dL_dog_3 : decode cL_dog 3 = .ok (.iload_n 2, 1) := by decide +kernel
theorem dL_dog_4 : decode cL_dog 4 = .ok (.iconst 0, 1) := by decide +kernel
theorem dL_dog_5 : decode cL_dog 5 = .ok (.iconst 0, 1) := by decide +kernel
theorem dL_dog_6 : decode cL_dog 6 = .ok (.invokestatic 153, 3) := by decide +kernel
theorem dL_dog_9 : decode cL_dog 9 = .ok (.ireturn, 1) := by decide +kernel
theorem dL_sum_0 : decode cL_sum 0 = .ok (.lconst 0, 1) := by decide +kernel
theorem dL_sum_1 : decode cL_sum 1 = .ok (.lstore_n 1, 1) := by decide +kernel
theorem dL_sum_2 : decode cL_sum 2 = .ok (.iconst 0, 1) := by decide +kernel
theorem dL_sum_3 : decode cL_sum 3 = .ok (.istore_n 3, 1) := by decide +kernel
theorem dL_sum_4 : decode cL_sum 4 = .ok (.iload_n 3, 1) := by decide +kernel
theorem dL_sum_5 : decode cL_sum 5 = .ok (.bipush 17, 2) := by decide +kernel
theorem dL_sum_7 : decode cL_sum 7 = .ok (.if_icmp .ge 22, 3) := by decide +kernel
theorem dL_sum_10 : decode cL_sum 10 = .ok (.ldc2_w 157, 3) := by decide +kernel
theorem dL_sum_13 : decode cL_sum 13 = .ok (.lload_n 1, 1) := by decide +kernel
theorem dL_sum_14 : decode cL_sum 14 = .ok (.lmul, 1) := by decide +kernel
theorem dL_sum_15 : decode cL_sum 15 = .ok (.aload_n 0, 1) := by decide +kernel
theorem dL_sum_16 : decode cL_sum 16 = .ok (.iload_n 3, 1) := by decide +kernel
theorem dL_sum_17 : decode cL_sum 17 = .ok (.invokestatic 159, 3) := by decide +kernel
theorem dL_sum_20 : decode cL_sum 20 = .ok (.i2l, 1) := by decide +kernel
theorem dL_sum_21 : decode cL_sum 21 = .ok (.ladd, 1) := by decide +kernel
theorem dL_sum_22 : decode cL_sum 22 = .ok (.lstore_n 1, 1) := by decide +kernel
theorem dL_sum_23 : decode cL_sum 23 = .ok (.iinc 3 1, 3) := by decide +kernel
theorem dL_sum_26 : decode cL_sum 26 = .ok (.goto (-22), 3) := by decide +kernel
theorem dL_sum_29 : decode cL_sum 29 = .ok (.iconst 0, 1) := by decide +kernel
theorem dL_sum_30 : decode cL_sum 30 = .ok (.istore_n 3, 1) := by decide +kernel
theorem dL_sum_31 : decode cL_sum 31 = .ok (.iload_n 3, 1) := by decide +kernel
theorem dL_sum_32 : decode cL_sum 32 = .ok (.aload_n 0, 1) := by decide +kernel
theorem dL_sum_33 : decode cL_sum 33 = .ok (.iconst 0, 1) := by decide +kernel
theorem dL_sum_34 : decode cL_sum 34 = .ok (.invokestatic 159, 3) := by decide +kernel
theorem dL_sum_37 : decode cL_sum 37 = .ok (.if_icmp .ge 74, 3) := by decide +kernel
theorem dL_sum_40 : decode cL_sum 40 = .ok (.iconst 0, 1) := by decide +kernel
theorem dL_sum_41 : decode cL_sum 41 = .ok (.istore 4, 2) := by decide +kernel
theorem dL_sum_43 : decode cL_sum 43 = .ok (.iload 4, 2) := by decide +kernel
theorem dL_sum_45 : decode cL_sum 45 = .ok (.bipush 8, 2) := by decide +kernel
theorem dL_sum_47 : decode cL_sum 47 = .ok (.if_icmp .ge 24, 3) := by decide +kernel
theorem dL_sum_50 : decode cL_sum 50 = .ok (.ldc2_w 157, 3) := by decide +kernel
theorem dL_sum_53 : decode cL_sum 53 = .ok (.lload_n 1, 1) := by decide +kernel
theorem dL_sum_54 : decode cL_sum 54 = .ok (.lmul, 1) := by decide +kernel
theorem dL_sum_55 : decode cL_sum 55 = .ok (.aload_n 0, 1) := by decide +kernel
theorem dL_sum_56 : decode cL_sum 56 = .ok (.iload_n 3, 1) := by decide +kernel
theorem dL_sum_57 : decode cL_sum 57 = .ok (.iload 4, 2) := by decide +kernel
theorem dL_sum_59 : decode cL_sum 59 = .ok (.invokestatic 161, 3) := by decide +kernel
theorem dL_sum_62 : decode cL_sum 62 = .ok (.i2l, 1) := by decide +kernel
theorem dL_sum_63 : decode cL_sum 63 = .ok (.ladd, 1) := by decide +kernel
theorem dL_sum_64 : decode cL_sum 64 = .ok (.lstore_n 1, 1) := by decide +kernel
theorem dL_sum_65 : decode cL_sum 65 = .ok (.iinc 4 1, 3) := by decide +kernel
theorem dL_sum_68 : decode cL_sum 68 = .ok (.goto (-25), 3) := by decide +kernel
theorem dL_sum_71 : decode cL_sum 71 = .ok (.iconst 0, 1) := by decide +kernel
theorem dL_sum_72 : decode cL_sum 72 = .ok (.istore 4, 2) := by decide +kernel
theorem dL_sum_74 : decode cL_sum 74 = .ok (.iload 4, 2) := by decide +kernel
theorem dL_sum_76 : decode cL_sum 76 = .ok (.bipush 6, 2) := by decide +kernel
theorem dL_sum_78 : decode cL_sum 78 = .ok (.if_icmp .ge 27, 3) := by decide +kernel
theorem dL_sum_81 : decode cL_sum 81 = .ok (.ldc2_w 157, 3) := by decide +kernel
theorem dL_sum_84 : decode cL_sum 84 = .ok (.lload_n 1, 1) := by decide +kernel
theorem dL_sum_85 : decode cL_sum 85 = .ok (.lmul, 1) := by decide +kernel
theorem dL_sum_86 : decode cL_sum 86 = .ok (.aload_n 0, 1) := by decide +kernel
theorem dL_sum_87 : decode cL_sum 87 = .ok (.iconst 4, 1) := by decide +kernel
theorem dL_sum_88 : decode cL_sum 88 = .ok (.iload_n 3, 1) := by decide +kernel
theorem dL_sum_89 : decode cL_sum 89 = .ok (.iload 4, 2) := by decide +kernel
theorem dL_sum_91 : decode cL_sum 91 = .ok (.iconst 0, 1) := by decide +kernel
theorem dL_sum_92 : decode cL_sum 92 = .ok (.iconst 0, 1) := by decide +kernel
theorem dL_sum_93 : decode cL_sum 93 = .ok (.invokestatic 153, 3) := by decide +kernel
theorem dL_sum_96 : decode cL_sum 96 = .ok (.i2l, 1) := by decide +kernel
theorem dL_sum_97 : decode cL_sum 97 = .ok (.ladd, 1) := by decide +kernel
theorem dL_sum_98 : decode cL_sum 98 = .ok (.lstore_n 1, 1) := by decide +kernel
theorem dL_sum_99 : decode cL_sum 99 = .ok (.iinc 4 1, 3) := by decide +kernel
theorem dL_sum_102 : decode cL_sum 102 = .ok (.goto (-28), 3) := by decide +kernel
theorem dL_sum_105 : decode cL_sum 105 = .ok (.iinc 3 1, 3) := by decide +kernel
theorem dL_sum_108 : decode cL_sum 108 = .ok (.goto (-77), 3) := by decide +kernel
theorem dL_sum_111 : decode cL_sum 111 = .ok (.lload_n 1, 1) := by decide +kernel
theorem dL_sum_112 : decode cL_sum 112 = .ok (.lreturn, 1) := by decide +kernel
theorem dL_points_0 : decode cL_points 0 = .ok (.lconst 0, 1) := by decide +kernel
theorem dL_points_1 : decode cL_points 1 = .ok (.lstore_n 1, 1) := by decide +kernel
theorem dL_points_2 : decode cL_points 2 = .ok (.iconst 0, 1) := by decide +kernel
theorem dL_points_3 : decode cL_points 3 = .ok (.istore_n 3, 1) := by decide +kernel
theorem dL_points_4 : decode cL_points 4 = .ok (.iload_n 3, 1) := by decide +kernel
theorem dL_points_5 : decode cL_points 5 = .ok (.bipush 6, 2) := by decide +kernel
theorem dL_points_7 : decode cL_points 7 = .ok (.if_icmp .ge 29, 3) := by decide +kernel
theorem dL_points_10 : decode cL_points 10 = .ok (.ldc2_w 163, 3) := by decide +kernel
theorem dL_points_13 : decode cL_points 13 = .ok (.lload_n 1, 1) := by decide +kernel
theorem dL_points_14 : decode cL_points 14 = .ok (.lmul, 1) := by decide +kernel
theorem dL_points_15 : decode cL_points 15 = .ok (.iload_n 0, 1) := by decide +kernel
theorem dL_points_16 : decode cL_points 16 = .ok (.iload_n 3, 1) := by decide +kernel
theorem dL_points_17 : decode cL_points 17 = .ok (.iconst 1, 1) := by decide +kernel
theorem dL_points_18 : decode cL_points 18 = .ok (.iadd, 1) := by decide +kernel
theorem dL_points_19 : decode cL_points 19 = .ok (.idiv, 1) := by decide +kernel
theorem dL_points_20 : decode cL_points 20 = .ok (.iload_n 3, 1) := by decide +kernel
theorem dL_points_21 : decode cL_points 21 = .ok (.invokestatic 165, 3) := by decide +kernel
theorem dL_points_24 : decode cL_points 24 = .ok (.iconst 1, 1) := by decide +kernel
theorem dL_points_25 : decode cL_points 25 = .ok (.iadd, 1) := by decide +kernel
theorem dL_points_26 : decode cL_points 26 = .ok (.irem, 1) := by decide +kernel
theorem dL_points_27 : decode cL_points 27 = .ok (.i2l, 1) := by decide +kernel
theorem dL_points_28 : decode cL_points 28 = .ok (.ladd, 1) := by decide +kernel
theorem dL_points_29 : decode cL_points 29 = .ok (.lstore_n 1, 1) := by decide +kernel
theorem dL_points_30 : decode cL_points 30 = .ok (.iinc 3 1, 3) := by decide +kernel
theorem dL_points_33 : decode cL_points 33 = .ok (.goto (-29), 3) := by decide +kernel
theorem dL_points_36 : decode cL_points 36 = .ok (.lload_n 1, 1) := by decide +kernel
theorem dL_points_37 : decode cL_points 37 = .ok (.lreturn, 1) := by decide +kernel
