theorem dL_cell_0 : decode cL_cell 0 = .ok (.iload_n 1, 1) := by decide +kernel
theorem dL_cell_1 : decode cL_cell 1 = .ok (.aload_n 0, 1) := by decide +kernel
theorem dL_cell_2 : decode cL_cell 2 = .ok (.arraylength, 1) := by decide +kernel
theorem dL_cell_3 : decode cL_cell 3 = .ok (.if_icmp .ge 9, 3) := by decide +kernel
theorem dL_cell_6 : decode cL_cell 6 = .ok (.aload_n 0, 1) := by decide +kernel
theorem dL_cell_7 : decode cL_cell 7 = .ok (.iload_n 1, 1) := by decide +kernel
theorem dL_cell_8 : decode cL_cell 8 = .ok (.iaload, 1) := by decide +kernel
theorem dL_cell_9 : decode cL_cell 9 = .ok (.goto 18, 3) := by decide +kernel
theorem dL_cell_12 : decode cL_cell 12 = .ok (.sipush 7919, 3) := by decide +kernel
theorem dL_cell_15 : decode cL_cell 15 = .ok (.iload_n 1, 1) := by decide +kernel
theorem dL_cell_16 : decode cL_cell 16 = .ok (.sipush 673, 3) := by decide +kernel
theorem dL_cell_19 : decode cL_cell 19 = .ok (.iadd, 1) := by decide +kernel
theorem dL_cell_20 : decode cL_cell 20 = .ok (.imul, 1) := by decide +kernel
theorem dL_cell_21 : decode cL_cell 21 = .ok (.iload_n 1, 1) := by decide +kernel
theorem dL_cell_22 : decode cL_cell 22 = .ok (.sipush 1163, 3) := by decide +kernel
theorem dL_cell_25 : decode cL_cell 25 = .ok (.iadd, 1) := by decide +kernel
theorem dL_cell_26 : decode cL_cell 26 = .ok (.imul, 1) := by decide +kernel
theorem dL_cell_27 : decode cL_cell 27 = .ok (.ireturn, 1) := by decide +kernel
theorem dL_low_0 : decode cL_low 0 = .ok (.iload_n 0, 1) := by decide +kernel
theorem dL_low_1 : decode cL_low 1 = .ok (.ldc 7, 2) := by decide +kernel
theorem dL_low_3 : decode cL_low 3 = .ok (.iand, 1) := by decide +kernel
theorem dL_low_4 : decode cL_low 4 = .ok (.iload_n 1, 1) := by decide +kernel
theorem dL_low_5 : decode cL_low 5 = .ok (.irem, 1) := by decide +kernel
theorem dL_low_6 : decode cL_low 6 = .ok (.ireturn, 1) := by decide +kernel
theorem dL_bits_0 : decode cL_bits 0 = .ok (.iload_n 0, 1) := by decide +kernel
theorem dL_bits_1 : decode cL_bits 1 = .ok (.iconst 4, 1) := by decide +kernel
theorem dL_bits_2 : decode cL_bits 2 = .ok (.invokestatic 8, 3) := by decide +kernel
theorem dL_bits_5 : decode cL_bits 5 = .ok (.i2l, 1) := by decide +kernel
theorem dL_bits_6 : decode cL_bits 6 = .ok (.bipush 31, 2) := by decide +kernel
theorem dL_bits_8 : decode cL_bits 8 = .ok (.lshl, 1) := by decide +kernel
theorem dL_bits_9 : decode cL_bits 9 = .ok (.iload_n 0, 1) := by decide +kernel
theorem dL_bits_10 : decode cL_bits 10 = .ok (.iconst 3, 1) := by decide +kernel
theorem dL_bits_11 : decode cL_bits 11 = .ok (.ishr, 1) := by decide +kernel
theorem dL_bits_12 : decode cL_bits 12 = .ok (.iconst 4, 1) := by decide +kernel
theorem dL_bits_13 : decode cL_bits 13 = .ok (.invokestatic 8, 3) := by decide +kernel
theorem dL_bits_16 : decode cL_bits 16 = .ok (.i2l, 1) := by decide +kernel
theorem dL_bits_17 : decode cL_bits 17 = .ok (.iconst 4, 1) := by decide +kernel
theorem dL_bits_18 : decode cL_bits 18 = .ok (.lshl, 1) := by decide +kernel
theorem dL_bits_19 : decode cL_bits 19 = .ok (.lor, 1) := by decide +kernel
theorem dL_bits_20 : decode cL_bits 20 = .ok (.iload_n 0, 1) := by decide +kernel
theorem dL_bits_21 : decode cL_bits 21 = .ok (.bipush 6, 2) := by decide +kernel
theorem dL_bits_23 : decode cL_bits 23 = .ok (.ishr, 1) := by decide +kernel
theorem dL_bits_24 : decode cL_bits 24 = .ok (.bipush 9, 2) := by decide +kernel
theorem dL_bits_26 : decode cL_bits 26 = .ok (.invokestatic 8, 3) := by decide +kernel
theorem dL_bits_29 : decode cL_bits 29 = .ok (.ifCond .ne 9, 3) := by decide +kernel
theorem dL_bits_32 : decode cL_bits 32 = .ok (.ldc2_w 14, 3) := by decide +kernel
theorem dL_bits_35 : decode cL_bits 35 = .ok (.goto 4, 3) := by decide +kernel
theorem dL_bits_38 : decode cL_bits 38 = .ok (.lconst 0, 1) := by decide +kernel
theorem dL_bits_39 : decode cL_bits 39 = .ok (.lor, 1) := by decide +kernel
theorem dL_bits_40 : decode cL_bits 40 = .ok (.lreturn, 1) := by decide +kernel
theorem dL_add_0 : decode cL_add 0 = .ok (.aload_n 0, 1) := by decide +kernel
theorem dL_add_1 : decode cL_add 1 = .ok (.iload_n 1, 1) := by decide +kernel
theorem dL_add_2 : decode cL_add 2 = .ok (.iload_n 2, 1) := by decide +kernel
theorem dL_add_3 : decode cL_add 3 = .ok (.iload_n 3, 1) := by decide +kernel
theorem dL_add_4 : decode cL_add 4 = .ok (.lload 4, 2) := by decide +kernel
theorem dL_add_6 : decode cL_add 6 = .ok (.lload 6, 2) := by decide +kernel
theorem dL_add_8 : decode cL_add 8 = .ok (.iload 8, 2) := by decide +kernel
theorem dL_add_10 : decode cL_add 10 = .ok (.invokevirtual 16, 3) := by decide +kernel
theorem dL_add_13 : decode cL_add 13 = .ok (.ireturn, 1) := by decide +kernel
theorem dL_add_14 : decode cL_add 14 = .ok (.astore 9, 2) := by decide +kernel
theorem dL_add_16 : decode cL_add 16 = .ok (.ldc 24, 2) := by decide +kernel
theorem dL_add_18 : decode cL_add 18 = .ok (.ireturn, 1) := by decide +kernel
theorem dL_add_19 : decode cL_add 19 = .ok (.astore 9, 2) := by decide +kernel
theorem dL_add_21 : decode cL_add 21 = .ok (.ldc 24, 2) := by decide +kernel
theorem dL_add_23 : decode cL_add 23 = .ok (.ireturn, 1) := by decide +kernel
theorem dL_remove_0 : decode cL_remove 0 = .ok (.aload_n 0, 1) := by decide +kernel
theorem dL_remove_1 : decode cL_remove 1 = .ok (.iload_n 1, 1) := by decide +kernel
theorem dL_remove_2 : decode cL_remove 2 = .ok (.iload_n 2, 1) := by decide +kernel
theorem dL_remove_3 : decode cL_remove 3 = .ok (.invokevirtual 27, 3) := by decide +kernel
theorem dL_remove_6 : decode cL_remove 6 = .ok (.ireturn, 1) := by decide +kernel
theorem dL_remove_7 : decode cL_remove 7 = .ok (.astore_n 3, 1) := by decide +kernel
theorem dL_remove_8 : decode cL_remove 8 = .ok (.ldc 24, 2) := by decide +kernel
theorem dL_remove_10 : decode cL_remove 10 = .ok (.ireturn, 1) := by decide +kernel
theorem dL_remove_11 : decode cL_remove 11 = .ok (.astore_n 3, 1) := by decide +kernel
theorem dL_remove_12 : decode cL_remove 12 = .ok (.ldc 24, 2) := by decide +kernel
theorem dL_remove_14 : decode cL_remove 14 = .ok (.ireturn, 1) := by decide +kernel
theorem dL_setDefault_0 : decode cL_setDefault 0 = .ok (.aload_n 0, 1) := by decide +kernel
theorem dL_setDefault_1 : decode cL_setDefault 1 = .ok (.iload_n 1, 1) := by decide +kernel
theorem dL_setDefault_2 : decode cL_setDefault 2 = .ok (.iload_n 2, 1) := by decide +kernel
theorem dL_setDefault_3 : decode cL_setDefault 3 = .ok (.invokevirtual 32, 3) := by decide +kernel
theorem dL_setDefault_6 : decode cL_setDefault 6 = .ok (.ireturn, 1) := by decide +kernel
theorem dL_setDefault_7 : decode cL_setDefault 7 = .ok (.astore_n 3, 1) := by decide +kernel
theorem dL_setDefault_8 : decode cL_setDefault 8 = .ok (.ldc 24, 2) := by decide +kernel
theorem dL_setDefault_10 : decode cL_setDefault 10 = .ok (.ireturn, 1) := by decide +kernel
theorem dL_setFrequency_0 : decode cL_setFrequency 0 = .ok (.aload_n 0, 1) := by decide +kernel
theorem dL_setFrequency_1 : decode cL_setFrequency 1 = .ok (.iload_n 1, 1) := by decide +kernel
theorem dL_setFrequency_2 : decode cL_setFrequency 2 = .ok (.iload_n 2, 1) := by decide +kernel
theorem dL_setFrequency_3 : decode cL_setFrequency 3 = .ok (.invokevirtual 35, 3) := by decide +kernel
theorem dL_setFrequency_6 : decode cL_setFrequency 6 = .ok (.ireturn, 1) := by decide +kernel
theorem dL_setFrequency_7 : decode cL_setFrequency 7 = .ok (.astore_n 3, 1) := by decide +kernel
theorem dL_setFrequency_8 : decode cL_setFrequency 8 = .ok (.ldc 24, 2) := by decide +kernel
theorem dL_setFrequency_10 : decode cL_setFrequency 10 = .ok (.ireturn, 1) := by decide +kernel
theorem dL_compile_0 : decode cL_compile 0 = .ok (.aload_n 0, 1) := by decide +kernel
theorem dL_compile_1 : decode cL_compile 1 = .ok (.iload_n 1, 1) := by decide +kernel
theorem dL_compile_2 : decode cL_compile 2 = .ok (.invokevirtual 38, 3) := by decide +kernel
theorem dL_compile_5 : decode cL_compile 5 = .ok (.ireturn, 1) := by decide +kernel
theorem dL_compile_6 : decode cL_compile 6 = .ok (.astore_n 2, 1) := by decide +kernel
theorem dL_compile_7 : decode cL_compile 7 = .ok (.ldc 24, 2) := by decide +kernel
theorem dL_compile_9 : decode cL_compile 9 = .ok (.ireturn, 1) := by decide +kernel
theorem dL_judge_0 : decode cL_judge 0 = .ok (.aload_n 0, 1) := by decide +kernel
theorem dL_judge_1 : decode cL_judge 1 = .ok (.iload_n 1, 1) := by decide +kernel
theorem dL_judge_2 : decode cL_judge 2 = .ok (.lload_n 2, 1) := by decide +kernel
theorem dL_judge_3 : decode cL_judge 3 = .ok (.lload 4, 2) := by decide +kernel
theorem dL_judge_5 : decode cL_judge 5 = .ok (.invokevirtual 42, 3) := by decide +kernel
theorem dL_judge_8 : decode cL_judge 8 = .ok (.ireturn, 1) := by decide +kernel
theorem dL_judge_9 : decode cL_judge 9 = .ok (.astore 6, 2) := by decide +kernel
theorem dL_judge_11 : decode cL_judge 11 = .ok (.ldc 24, 2) := by decide +kernel
theorem dL_judge_13 : decode cL_judge 13 = .ok (.ireturn, 1) := by decide +kernel
theorem dL_judge_14 : decode cL_judge 14 = .ok (.astore 6, 2) := by decide +kernel
theorem dL_judge_16 : decode cL_judge 16 = .ok (.iconst (-1), 1) := by decide +kernel
theorem dL_judge_17 : decode cL_judge 17 = .ok (.ireturn, 1) := by decide +kernel
theorem dL_path_0 : decode cL_path 0 = .ok (.aload_n 0, 1) := by decide +kernel
theorem dL_path_1 : decode cL_path 1 = .ok (.iload_n 1, 1) := by decide +kernel
theorem dL_path_2 : decode cL_path 2 = .ok (.lload_n 2, 1) := by decide +kernel
theorem dL_path_3 : decode cL_path 3 = .ok (.lload 4, 2) := by decide +kernel
theorem dL_path_5 : decode cL_path 5 = .ok (.invokevirtual 46, 3) := by decide +kernel
theorem dL_path_8 : decode cL_path 8 = .ok (.ireturn, 1) := by decide +kernel
theorem dL_path_9 : decode cL_path 9 = .ok (.astore 6, 2) := by decide +kernel
theorem dL_path_11 : decode cL_path 11 = .ok (.ldc 24, 2) := by decide +kernel
theorem dL_path_13 : decode cL_path 13 = .ok (.ireturn, 1) := by decide +kernel
theorem dL_path_14 : decode cL_path 14 = .ok (.astore 6, 2) := by decide +kernel
theorem dL_path_16 : decode cL_path 16 = .ok (.iconst (-1), 1) := by decide +kernel
theorem dL_path_17 : decode cL_path 17 = .ok (.ireturn, 1) := by decide +kernel
theorem dL_areHidersSo_0 : decode cL_areHidersSo 0 = .ok (.iconst 0, 1) := by decide +kernel
theorem dL_areHidersSo_1 : decode cL_areHidersSo 1 = .ok (.istore_n 2, 1) := by decide +kernel
theorem dL_areHidersSo_2 : decode cL_areHidersSo 2 = .ok (.iload_n 2, 1) := by decide +kernel
theorem dL_areHidersSo_3 : decode cL_areHidersSo 3 = .ok (.aload_n 0, 1) := by decide +kernel
theorem dL_areHidersSo_4 : decode cL_areHidersSo 4 = .ok (.iload_n 1, 1) := by decide +kernel
theorem dL_areHidersSo_5 : decode cL_areHidersSo 5 = .ok (.invokevirtual 70, 3) := by decide +kernel
theorem dL_areHidersSo_8 : decode cL_areHidersSo 8 = .ok (.if_icmp .ge 28, 3) := by decide +kernel
theorem dL_areHidersSo_11 : decode cL_areHidersSo 11 = .ok (.aload_n 0, 1) := by decide +kernel
theorem dL_areHidersSo_12 : decode cL_areHidersSo 12 = .ok (.iload_n 1, 1) := by decide +kernel
theorem dL_areHidersSo_13 : decode cL_areHidersSo 13 = .ok (.iload_n 2, 1) := by decide +kernel
theorem dL_areHidersSo_14 : decode cL_areHidersSo 14 = .ok (.invokevirtual 77, 3) := by decide +kernel
theorem dL_areHidersSo_17 : decode cL_areHidersSo 17 = .ok (.istore_n 3, 1) := by decide +kernel
theorem dL_areHidersSo_18 : decode cL_areHidersSo 18 = .ok (.iload_n 3, 1) := by decide +kernel
theorem dL_areHidersSo_19 : decode cL_areHidersSo 19 = .ok (.iconst (-1), 1) := by decide +kernel
theorem dL_areHidersSo_20 : decode cL_areHidersSo 20 = .ok (.if_icmp .lt 8, 3) := by decide +kernel
theorem dL_areHidersSo_23 : decode cL_areHidersSo 23 = .ok (.iload_n 3, 1) := by decide +kernel
theorem dL_areHidersSo_24 : decode cL_areHidersSo 24 = .ok (.iload_n 2, 1) := by decide +kernel
theorem dL_areHidersSo_25 : decode cL_areHidersSo 25 = .ok (.if_icmp .le 5, 3) := by decide +kernel
theorem dL_areHidersSo_28 : decode cL_areHidersSo 28 = .ok (.iconst 0, 1) := by decide +kernel
theorem dL_areHidersSo_29 : decode cL_areHidersSo 29 = .ok (.ireturn, 1) := by decide +kernel
theorem dL_areHidersSo_30 : decode cL_areHidersSo 30 = .ok (.iinc 2 1, 3) := by decide +kernel
theorem dL_areHidersSo_33 : decode cL_areHidersSo 33 = .ok (.goto (-31), 3) := by decide +kernel
theorem dL_areHidersSo_36 : decode cL_areHidersSo 36 = .ok (.iconst 1, 1) := by decide +kernel
theorem dL_areHidersSo_37 : decode cL_areHidersSo 37 = .ok (.ireturn, 1) := by decide +kernel
