theorem dX4_init_0 : decode cX4_init 0 = .ok (.aload_n 0, 1) := by decide +kernel
theorem dX4_init_1 : decode cX4_init 1 = .ok (.invokespecial 1, 3) := by decide +kernel
theorem dX4_init_4 : decode cX4_init 4 = .ok (.aload_n 0, 1) := by decide +kernel
theorem dX4_init_5 : decode cX4_init 5 = .ok (.iconst 4, 1) := by decide +kernel
theorem dX4_init_6 : decode cX4_init 6 = .ok (.anewarray 9, 3) := by decide +kernel
theorem dX4_init_9 : decode cX4_init 9 = .ok (.putfield 11, 3) := by decide +kernel
theorem dX4_init_12 : decode cX4_init 12 = .ok (.aload_n 0, 1) := by decide +kernel
theorem dX4_init_13 : decode cX4_init 13 = .ok (.bipush 32, 2) := by decide +kernel
theorem dX4_init_15 : decode cX4_init 15 = .ok (.newarray .int, 2) := by decide +kernel
theorem dX4_init_17 : decode cX4_init 17 = .ok (.putfield 15, 3) := by decide +kernel
theorem dX4_init_20 : decode cX4_init 20 = .ok (.aload_n 0, 1) := by decide +kernel
theorem dX4_init_21 : decode cX4_init 21 = .ok (.new 19, 3) := by decide +kernel
theorem dX4_init_24 : decode cX4_init 24 = .ok (.dup, 1) := by decide +kernel
theorem dX4_init_25 : decode cX4_init 25 = .ok (.invokespecial 21, 3) := by decide +kernel
theorem dX4_init_28 : decode cX4_init 28 = .ok (.putfield 22, 3) := by decide +kernel
theorem dX4_init_31 : decode cX4_init 31 = .ok (.iconst 0, 1) := by decide +kernel
theorem dX4_init_32 : decode cX4_init 32 = .ok (.istore_n 1, 1) := by decide +kernel
theorem dX4_init_33 : decode cX4_init 33 = .ok (.iload_n 1, 1) := by decide +kernel
theorem dX4_init_34 : decode cX4_init 34 = .ok (.iconst 4, 1) := by decide +kernel
theorem dX4_init_35 : decode cX4_init 35 = .ok (.if_icmp .ge 22, 3) := by decide +kernel
theorem dX4_init_38 : decode cX4_init 38 = .ok (.aload_n 0, 1) := by decide +kernel
theorem dX4_init_39 : decode cX4_init 39 = .ok (.getfield 11, 3) := by decide +kernel
theorem dX4_init_42 : decode cX4_init 42 = .ok (.iload_n 1, 1) := by decide +kernel
theorem dX4_init_43 : decode cX4_init 43 = .ok (.new 9, 3) := by decide +kernel
theorem dX4_init_46 : decode cX4_init 46 = .ok (.dup, 1) := by decide +kernel
theorem dX4_init_47 : decode cX4_init 47 = .ok (.invokespecial 26, 3) := by decide +kernel
theorem dX4_init_50 : decode cX4_init 50 = .ok (.aastore, 1) := by decide +kernel
theorem dX4_init_51 : decode cX4_init 51 = .ok (.iinc 1 1, 3) := by decide +kernel
theorem dX4_init_54 : decode cX4_init 54 = .ok (.goto (-21), 3) := by decide +kernel
theorem dX4_init_57 : decode cX4_init 57 = .ok (.return_, 1) := by decide +kernel
theorem dX4_add_0 : decode cX4_add 0 = .ok (.iload_n 1, 1) := by decide +kernel
theorem dX4_add_1 : decode cX4_add 1 = .ok (.invokestatic 27, 3) := by decide +kernel
theorem dX4_add_4 : decode cX4_add 4 = .ok (.iload_n 2, 1) := by decide +kernel
theorem dX4_add_5 : decode cX4_add 5 = .ok (.invokestatic 31, 3) := by decide +kernel
theorem dX4_add_8 : decode cX4_add 8 = .ok (.iload_n 3, 1) := by decide +kernel
theorem dX4_add_9 : decode cX4_add 9 = .ok (.ifCond .lt 8, 3) := by decide +kernel
theorem dX4_add_12 : decode cX4_add 12 = .ok (.iload_n 3, 1) := by decide +kernel
theorem dX4_add_13 : decode cX4_add 13 = .ok (.iconst 2, 1) := by decide +kernel
theorem dX4_add_14 : decode cX4_add 14 = .ok (.if_icmp .lt 13, 3) := by decide +kernel
theorem dX4_add_17 : decode cX4_add 17 = .ok (.new 34, 3) := by decide +kernel
theorem dX4_add_20 : decode cX4_add 20 = .ok (.dup, 1) := by decide +kernel
theorem dX4_add_21 : decode cX4_add 21 = .ok (.ldc 36, 2) := by decide +kernel
theorem dX4_add_23 : decode cX4_add 23 = .ok (.invokespecial 38, 3) := by decide +kernel
theorem dX4_add_26 : decode cX4_add 26 = .ok (.athrow, 1) := by decide +kernel
theorem dX4_add_27 : decode cX4_add 27 = .ok (.iload 8, 2) := by decide +kernel
theorem dX4_add_29 : decode cX4_add 29 = .ok (.invokestatic 41, 3) := by decide +kernel
theorem dX4_add_32 : decode cX4_add 32 = .ok (.aload_n 0, 1) := by decide +kernel
theorem dX4_add_33 : decode cX4_add 33 = .ok (.getfield 11, 3) := by decide +kernel
theorem dX4_add_36 : decode cX4_add 36 = .ok (.iload_n 1, 1) := by decide +kernel
theorem dX4_add_37 : decode cX4_add 37 = .ok (.aaload, 1) := by decide +kernel
theorem dX4_add_38 : decode cX4_add 38 = .ok (.invokevirtual 44, 3) := by decide +kernel
theorem dX4_add_41 : decode cX4_add 41 = .ok (.ifCond .eq 13, 3) := by decide +kernel
theorem dX4_add_44 : decode cX4_add 44 = .ok (.new 48, 3) := by decide +kernel
theorem dX4_add_47 : decode cX4_add 47 = .ok (.dup, 1) := by decide +kernel
theorem dX4_add_48 : decode cX4_add 48 = .ok (.ldc 50, 2) := by decide +kernel
theorem dX4_add_50 : decode cX4_add 50 = .ok (.invokespecial 52, 3) := by decide +kernel
theorem dX4_add_53 : decode cX4_add 53 = .ok (.athrow, 1) := by decide +kernel
theorem dX4_add_54 : decode cX4_add 54 = .ok (.aload_n 0, 1) := by decide +kernel
theorem dX4_add_55 : decode cX4_add 55 = .ok (.iconst 0, 1) := by decide +kernel
theorem dX4_add_56 : decode cX4_add 56 = .ok (.putfield 53, 3) := by decide +kernel
theorem dX4_add_59 : decode cX4_add 59 = .ok (.aload_n 0, 1) := by decide +kernel
theorem dX4_add_60 : decode cX4_add 60 = .ok (.getfield 11, 3) := by decide +kernel
theorem dX4_add_63 : decode cX4_add 63 = .ok (.iload_n 1, 1) := by decide +kernel
theorem dX4_add_64 : decode cX4_add 64 = .ok (.aaload, 1) := by decide +kernel
theorem dX4_add_65 : decode cX4_add 65 = .ok (.new 57, 3) := by decide +kernel
theorem dX4_add_68 : decode cX4_add 68 = .ok (.dup, 1) := by decide +kernel
theorem dX4_add_69 : decode cX4_add 69 = .ok (.iload_n 2, 1) := by decide +kernel
theorem dX4_add_70 : decode cX4_add 70 = .ok (.iload_n 3, 1) := by decide +kernel
theorem dX4_add_71 : decode cX4_add 71 = .ok (.lload 4, 2) := by decide +kernel
theorem dX4_add_73 : decode cX4_add 73 = .ok (.lload 6, 2) := by decide +kernel
theorem dX4_add_75 : decode cX4_add 75 = .ok (.iload 8, 2) := by decide +kernel
theorem dX4_add_77 : decode cX4_add 77 = .ok (.invokespecial 59, 3) := by decide +kernel
theorem dX4_add_80 : decode cX4_add 80 = .ok (.invokevirtual 62, 3) := by decide +kernel
theorem dX4_add_83 : decode cX4_add 83 = .ok (.ireturn, 1) := by decide +kernel
theorem dX4_remove_0 : decode cX4_remove 0 = .ok (.iload_n 1, 1) := by decide +kernel
theorem dX4_remove_1 : decode cX4_remove 1 = .ok (.invokestatic 27, 3) := by decide +kernel
theorem dX4_remove_4 : decode cX4_remove 4 = .ok (.aload_n 0, 1) := by decide +kernel
theorem dX4_remove_5 : decode cX4_remove 5 = .ok (.iload_n 1, 1) := by decide +kernel
theorem dX4_remove_6 : decode cX4_remove 6 = .ok (.iload_n 2, 1) := by decide +kernel
theorem dX4_remove_7 : decode cX4_remove 7 = .ok (.invokevirtual 66, 3) := by decide +kernel
theorem dX4_remove_10 : decode cX4_remove 10 = .ok (.aload_n 0, 1) := by decide +kernel
theorem dX4_remove_11 : decode cX4_remove 11 = .ok (.iconst 0, 1) := by decide +kernel
theorem dX4_remove_12 : decode cX4_remove 12 = .ok (.putfield 53, 3) := by decide +kernel
theorem dX4_remove_15 : decode cX4_remove 15 = .ok (.aload_n 0, 1) := by decide +kernel
theorem dX4_remove_16 : decode cX4_remove 16 = .ok (.getfield 11, 3) := by decide +kernel
theorem dX4_remove_19 : decode cX4_remove 19 = .ok (.iload_n 1, 1) := by decide +kernel
theorem dX4_remove_20 : decode cX4_remove 20 = .ok (.aaload, 1) := by decide +kernel
theorem dX4_remove_21 : decode cX4_remove 21 = .ok (.iload_n 2, 1) := by decide +kernel
theorem dX4_remove_22 : decode cX4_remove 22 = .ok (.invokevirtual 70, 3) := by decide +kernel
theorem dX4_remove_25 : decode cX4_remove 25 = .ok (.ireturn, 1) := by decide +kernel
theorem dX4_setDefault_0 : decode cX4_setDefault 0 = .ok (.iload_n 1, 1) := by decide +kernel
theorem dX4_setDefault_1 : decode cX4_setDefault 1 = .ok (.invokestatic 27, 3) := by decide +kernel
theorem dX4_setDefault_4 : decode cX4_setDefault 4 = .ok (.iload_n 2, 1) := by decide +kernel
theorem dX4_setDefault_5 : decode cX4_setDefault 5 = .ok (.invokestatic 41, 3) := by decide +kernel
theorem dX4_setDefault_8 : decode cX4_setDefault 8 = .ok (.aload_n 0, 1) := by decide +kernel
theorem dX4_setDefault_9 : decode cX4_setDefault 9 = .ok (.getfield 11, 3) := by decide +kernel
theorem dX4_setDefault_12 : decode cX4_setDefault 12 = .ok (.iload_n 1, 1) := by decide +kernel
theorem dX4_setDefault_13 : decode cX4_setDefault 13 = .ok (.aaload, 1) := by decide +kernel
theorem dX4_setDefault_14 : decode cX4_setDefault 14 = .ok (.getfield 74, 3) := by decide +kernel
theorem dX4_setDefault_17 : decode cX4_setDefault 17 = .ok (.istore_n 3, 1) := by decide +kernel
theorem dX4_setDefault_18 : decode cX4_setDefault 18 = .ok (.iload_n 2, 1) := by decide +kernel
theorem dX4_setDefault_19 : decode cX4_setDefault 19 = .ok (.iload_n 3, 1) := by decide +kernel
theorem dX4_setDefault_20 : decode cX4_setDefault 20 = .ok (.if_icmp .eq 18, 3) := by decide +kernel
theorem dX4_setDefault_23 : decode cX4_setDefault 23 = .ok (.aload_n 0, 1) := by decide +kernel
theorem dX4_setDefault_24 : decode cX4_setDefault 24 = .ok (.getfield 11, 3) := by decide +kernel
theorem dX4_setDefault_27 : decode cX4_setDefault 27 = .ok (.iload_n 1, 1) := by decide +kernel
theorem dX4_setDefault_28 : decode cX4_setDefault 28 = .ok (.aaload, 1) := by decide +kernel
theorem dX4_setDefault_29 : decode cX4_setDefault 29 = .ok (.iload_n 2, 1) := by decide +kernel
theorem dX4_setDefault_30 : decode cX4_setDefault 30 = .ok (.putfield 74, 3) := by decide +kernel
theorem dX4_setDefault_33 : decode cX4_setDefault 33 = .ok (.aload_n 0, 1) := by decide +kernel
theorem dX4_setDefault_34 : decode cX4_setDefault 34 = .ok (.iconst 0, 1) := by decide +kernel
theorem dX4_setDefault_35 : decode cX4_setDefault 35 = .ok (.putfield 53, 3) := by decide +kernel
theorem dX4_setDefault_38 : decode cX4_setDefault 38 = .ok (.iload_n 3, 1) := by decide +kernel
theorem dX4_setDefault_39 : decode cX4_setDefault 39 = .ok (.ireturn, 1) := by decide +kernel
theorem dX4_setFrequency_0 : decode cX4_setFrequency 0 = .ok (.iload_n 1, 1) := by decide +kernel
theorem dX4_setFrequency_1 : decode cX4_setFrequency 1 = .ok (.invokestatic 31, 3) := by decide +kernel
theorem dX4_setFrequency_4 : decode cX4_setFrequency 4 = .ok (.iload_n 2, 1) := by decide +kernel
theorem dX4_setFrequency_5 : decode cX4_setFrequency 5 = .ok (.ifCond .lt 10, 3) := by decide +kernel
theorem dX4_setFrequency_8 : decode cX4_setFrequency 8 = .ok (.iload_n 2, 1) := by decide +kernel
theorem dX4_setFrequency_9 : decode cX4_setFrequency 9 = .ok (.sipush 1000, 3) := by decide +kernel
theorem dX4_setFrequency_12 : decode cX4_setFrequency 12 = .ok (.if_icmp .le 13, 3) := by decide +kernel
theorem dX4_setFrequency_15 : decode cX4_setFrequency 15 = .ok (.new 34, 3) := by decide +kernel
theorem dX4_setFrequency_18 : decode cX4_setFrequency 18 = .ok (.dup, 1) := by decide +kernel
theorem dX4_setFrequency_19 : decode cX4_setFrequency 19 = .ok (.ldc 78, 2) := by decide +kernel
theorem dX4_setFrequency_21 : decode cX4_setFrequency 21 = .ok (.invokespecial 38, 3) := by decide +kernel
theorem dX4_setFrequency_24 : decode cX4_setFrequency 24 = .ok (.athrow, 1) := by decide +kernel
theorem dX4_setFrequency_25 : decode cX4_setFrequency 25 = .ok (.aload_n 0, 1) := by decide +kernel
theorem dX4_setFrequency_26 : decode cX4_setFrequency 26 = .ok (.getfield 15, 3) := by decide +kernel
theorem dX4_setFrequency_29 : decode cX4_setFrequency 29 = .ok (.iload_n 1, 1) := by decide +kernel
theorem dX4_setFrequency_30 : decode cX4_setFrequency 30 = .ok (.iaload, 1) := by decide +kernel
theorem dX4_setFrequency_31 : decode cX4_setFrequency 31 = .ok (.istore_n 3, 1) := by decide +kernel
theorem dX4_setFrequency_32 : decode cX4_setFrequency 32 = .ok (.iload_n 2, 1) := by decide +kernel
theorem dX4_setFrequency_33 : decode cX4_setFrequency 33 = .ok (.iload_n 3, 1) := by decide +kernel
theorem dX4_setFrequency_34 : decode cX4_setFrequency 34 = .ok (.if_icmp .eq 15, 3) := by decide +kernel
theorem dX4_setFrequency_37 : decode cX4_setFrequency 37 = .ok (.aload_n 0, 1) := by decide +kernel
theorem dX4_setFrequency_38 : decode cX4_setFrequency 38 = .ok (.getfield 15, 3) := by decide +kernel
theorem dX4_setFrequency_41 : decode cX4_setFrequency 41 = .ok (.iload_n 1, 1) := by decide +kernel
theorem dX4_setFrequency_42 : decode cX4_setFrequency 42 = .ok (.iload_n 2, 1) := by decide +kernel
theorem dX4_setFrequency_43 : decode cX4_setFrequency 43 = .ok (.iastore, 1) := by decide +kernel
theorem dX4_setFrequency_44 : decode cX4_setFrequency 44 = .ok (.aload_n 0, 1) := by decide +kernel
theorem dX4_setFrequency_45 : decode cX4_setFrequency 45 = .ok (.iconst 0, 1) := by decide +kernel
theorem dX4_setFrequency_46 : decode cX4_setFrequency 46 = .ok (.putfield 53, 3) := by decide +kernel
theorem dX4_setFrequency_49 : decode cX4_setFrequency 49 = .ok (.iload_n 3, 1) := by decide +kernel
theorem dX4_setFrequency_50 : decode cX4_setFrequency 50 = .ok (.ireturn, 1) := by decide +kernel
theorem dX4_rules_0 : decode cX4_rules 0 = .ok (.iload_n 1, 1) := by decide +kernel
theorem dX4_rules_1 : decode cX4_rules 1 = .ok (.invokestatic 27, 3) := by decide +kernel
theorem dX4_rules_4 : decode cX4_rules 4 = .ok (.aload_n 0, 1) := by decide +kernel
theorem dX4_rules_5 : decode cX4_rules 5 = .ok (.getfield 11, 3) := by decide +kernel
theorem dX4_rules_8 : decode cX4_rules 8 = .ok (.iload_n 1, 1) := by decide +kernel
theorem dX4_rules_9 : decode cX4_rules 9 = .ok (.aaload, 1) := by decide +kernel
theorem dX4_rules_10 : decode cX4_rules 10 = .ok (.getfield 80, 3) := by decide +kernel
theorem dX4_rules_13 : decode cX4_rules 13 = .ok (.invokevirtual 84, 3) := by decide +kernel
theorem dX4_rules_16 : decode cX4_rules 16 = .ok (.ireturn, 1) := by decide +kernel
theorem dX4_hider_0 : decode cX4_hider 0 = .ok (.iload_n 1, 1) := by decide +kernel
theorem dX4_hider_1 : decode cX4_hider 1 = .ok (.invokestatic 27, 3) := by decide +kernel
theorem dX4_hider_4 : decode cX4_hider 4 = .ok (.aload_n 0, 1) := by decide +kernel
theorem dX4_hider_5 : decode cX4_hider 5 = .ok (.iload_n 1, 1) := by decide +kernel
theorem dX4_hider_6 : decode cX4_hider 6 = .ok (.iload_n 2, 1) := by decide +kernel
theorem dX4_hider_7 : decode cX4_hider 7 = .ok (.invokevirtual 66, 3) := by decide +kernel
theorem dX4_hider_10 : decode cX4_hider 10 = .ok (.aload_n 0, 1) := by decide +kernel
theorem dX4_hider_11 : decode cX4_hider 11 = .ok (.getfield 11, 3) := by decide +kernel
theorem dX4_hider_14 : decode cX4_hider 14 = .ok (.iload_n 1, 1) := by decide +kernel
theorem dX4_hider_15 : decode cX4_hider 15 = .ok (.aaload, 1) := by decide +kernel
theorem dX4_hider_16 : decode cX4_hider 16 = .ok (.iload_n 2, 1) := by decide +kernel
theorem dX4_hider_17 : decode cX4_hider 17 = .ok (.invokevirtual 90, 3) := by decide +kernel
theorem dX4_hider_20 : decode cX4_hider 20 = .ok (.ireturn, 1) := by decide +kernel
theorem dX4_compile_0 : decode cX4_compile 0 = .ok (.iload_n 1, 1) := by decide +kernel
theorem dX4_compile_1 : decode cX4_compile 1 = .ok (.ifCond .lt 10, 3) := by decide +kernel
theorem dX4_compile_4 : decode cX4_compile 4 = .ok (.iload_n 1, 1) := by decide +kernel
theorem dX4_compile_5 : decode cX4_compile 5 = .ok (.sipush 1000, 3) := by decide +kernel
theorem dX4_compile_8 : decode cX4_compile 8 = .ok (.if_icmp .le 13, 3) := by decide +kernel
theorem dX4_compile_11 : decode cX4_compile 11 = .ok (.new 34, 3) := by decide +kernel
theorem dX4_compile_14 : decode cX4_compile 14 = .ok (.dup, 1) := by decide +kernel
theorem dX4_compile_15 : decode cX4_compile 15 = .ok (.ldc 93, 2) := by decide +kernel
theorem dX4_compile_17 : decode cX4_compile 17 = .ok (.invokespecial 38, 3) := by decide +kernel
theorem dX4_compile_20 : decode cX4_compile 20 = .ok (.athrow, 1) := by decide +kernel
theorem dX4_compile_21 : decode cX4_compile 21 = .ok (.aload_n 0, 1) := by decide +kernel
theorem dX4_compile_22 : decode cX4_compile 22 = .ok (.getfield 53, 3) := by decide +kernel
theorem dX4_compile_25 : decode cX4_compile 25 = .ok (.ifCond .ne 7, 3) := by decide +kernel
theorem dX4_compile_28 : decode cX4_compile 28 = .ok (.aload_n 0, 1) := by decide +kernel
theorem dX4_compile_29 : decode cX4_compile 29 = .ok (.invokevirtual 95, 3) := by decide +kernel
theorem dX4_compile_32 : decode cX4_compile 32 = .ok (.aload_n 0, 1) := by decide +kernel
theorem dX4_compile_33 : decode cX4_compile 33 = .ok (.invokevirtual 98, 3) := by decide +kernel
theorem dX4_compile_36 : decode cX4_compile 36 = .ok (.istore_n 2, 1) := by decide +kernel
theorem dX4_compile_37 : decode cX4_compile 37 = .ok (.iload_n 2, 1) := by decide +kernel
theorem dX4_compile_38 : decode cX4_compile 38 = .ok (.iload_n 1, 1) := by decide +kernel
theorem dX4_compile_39 : decode cX4_compile 39 = .ok (.if_icmp .le 5, 3) := by decide +kernel
theorem dX4_compile_42 : decode cX4_compile 42 = .ok (.iconst (-1), 1) := by decide +kernel
theorem dX4_compile_43 : decode cX4_compile 43 = .ok (.ireturn, 1) := by decide +kernel
theorem dX4_compile_44 : decode cX4_compile 44 = .ok (.aload_n 0, 1) := by decide +kernel
theorem dX4_compile_45 : decode cX4_compile 45 = .ok (.iconst 1, 1) := by decide +kernel
theorem dX4_compile_46 : decode cX4_compile 46 = .ok (.putfield 53, 3) := by decide +kernel
theorem dX4_compile_49 : decode cX4_compile 49 = .ok (.iload_n 2, 1) := by decide +kernel
theorem dX4_compile_50 : decode cX4_compile 50 = .ok (.ireturn, 1) := by decide +kernel
theorem dX4_isCompiled_0 : decode cX4_isCompiled 0 = .ok (.aload_n 0, 1) := by decide +kernel
theorem dX4_isCompiled_1 : decode cX4_isCompiled 1 = .ok (.getfield 53, 3) := by decide +kernel
theorem dX4_isCompiled_4 : decode cX4_isCompiled 4 = .ok (.ireturn, 1) := by decide +kernel
theorem dX4_worst_0 : decode cX4_worst 0 = .ok (.iload_n 1, 1) := by decide +kernel
theorem dX4_worst_1 : decode cX4_worst 1 = .ok (.invokestatic 27, 3) := by decide +kernel
theorem dX4_worst_4 : decode cX4_worst 4 = .ok (.aload_n 0, 1) := by decide +kernel
theorem dX4_worst_5 : decode cX4_worst 5 = .ok (.invokevirtual 103, 3) := by decide +kernel
theorem dX4_worst_8 : decode cX4_worst 8 = .ok (.aload_n 0, 1) := by decide +kernel
theorem dX4_worst_9 : decode cX4_worst 9 = .ok (.getfield 11, 3) := by decide +kernel
theorem dX4_worst_12 : decode cX4_worst 12 = .ok (.iload_n 1, 1) := by decide +kernel
theorem dX4_worst_13 : decode cX4_worst 13 = .ok (.aaload, 1) := by decide +kernel
theorem dX4_worst_14 : decode cX4_worst 14 = .ok (.invokevirtual 112, 3) := by decide +kernel
theorem dX4_worst_17 : decode cX4_worst 17 = .ok (.ireturn, 1) := by decide +kernel
theorem dX4_judge_0 : decode cX4_judge 0 = .ok (.iload_n 1, 1) := by decide +kernel
theorem dX4_judge_1 : decode cX4_judge 1 = .ok (.invokestatic 31, 3) := by decide +kernel
theorem dX4_judge_4 : decode cX4_judge 4 = .ok (.aload_n 0, 1) := by decide +kernel
theorem dX4_judge_5 : decode cX4_judge 5 = .ok (.invokevirtual 103, 3) := by decide +kernel
theorem dX4_judge_8 : decode cX4_judge 8 = .ok (.iconst 0, 1) := by decide +kernel
theorem dX4_judge_9 : decode cX4_judge 9 = .ok (.istore 6, 2) := by decide +kernel
theorem dX4_judge_11 : decode cX4_judge 11 = .ok (.aload_n 0, 1) := by decide +kernel
theorem dX4_judge_12 : decode cX4_judge 12 = .ok (.getfield 11, 3) := by decide +kernel
theorem dX4_judge_15 : decode cX4_judge 15 = .ok (.astore 7, 2) := by decide +kernel
theorem dX4_judge_17 : decode cX4_judge 17 = .ok (.aload 7, 2) := by decide +kernel
theorem dX4_judge_19 : decode cX4_judge 19 = .ok (.arraylength, 1) := by decide +kernel
theorem dX4_judge_20 : decode cX4_judge 20 = .ok (.istore 8, 2) := by decide +kernel
theorem dX4_judge_22 : decode cX4_judge 22 = .ok (.iconst 0, 1) := by decide +kernel
theorem dX4_judge_23 : decode cX4_judge 23 = .ok (.istore 9, 2) := by decide +kernel
theorem dX4_judge_25 : decode cX4_judge 25 = .ok (.iload 9, 2) := by decide +kernel
theorem dX4_judge_27 : decode cX4_judge 27 = .ok (.iload 8, 2) := by decide +kernel
theorem dX4_judge_29 : decode cX4_judge 29 = .ok (.if_icmp .ge 32, 3) := by decide +kernel
theorem dX4_judge_32 : decode cX4_judge 32 = .ok (.aload 7, 2) := by decide +kernel
theorem dX4_judge_34 : decode cX4_judge 34 = .ok (.iload 9, 2) := by decide +kernel
theorem dX4_judge_36 : decode cX4_judge 36 = .ok (.aaload, 1) := by decide +kernel
theorem dX4_judge_37 : decode cX4_judge 37 = .ok (.astore 10, 2) := by decide +kernel
theorem dX4_judge_39 : decode cX4_judge 39 = .ok (.iload 6, 2) := by decide +kernel
theorem dX4_judge_41 : decode cX4_judge 41 = .ok (.aload 10, 2) := by decide +kernel
theorem dX4_judge_43 : decode cX4_judge 43 = .ok (.iload_n 1, 1) := by decide +kernel
theorem dX4_judge_44 : decode cX4_judge 44 = .ok (.lload_n 2, 1) := by decide +kernel
theorem dX4_judge_45 : decode cX4_judge 45 = .ok (.lload 4, 2) := by decide +kernel
theorem dX4_judge_47 : decode cX4_judge 47 = .ok (.invokevirtual 115, 3) := by decide +kernel
theorem dX4_judge_50 : decode cX4_judge 50 = .ok (.invokestatic 119, 3) := by decide +kernel
theorem dX4_judge_53 : decode cX4_judge 53 = .ok (.istore 6, 2) := by decide +kernel
theorem dX4_judge_55 : decode cX4_judge 55 = .ok (.iinc 9 1, 3) := by decide +kernel
theorem dX4_judge_58 : decode cX4_judge 58 = .ok (.goto (-33), 3) := by decide +kernel
theorem dX4_judge_61 : decode cX4_judge 61 = .ok (.iload 6, 2) := by decide +kernel
theorem dX4_judge_63 : decode cX4_judge 63 = .ok (.ireturn, 1) := by decide +kernel
theorem dX4_judgeByRules_0 : decode cX4_judgeByRules 0 = .ok (.iload_n 1, 1) := by decide +kernel
theorem dX4_judgeByRules_1 : decode cX4_judgeByRules 1 = .ok (.invokestatic 31, 3) := by decide +kernel
theorem dX4_judgeByRules_4 : decode cX4_judgeByRules 4 = .ok (.iconst 0, 1) := by decide +kernel
theorem dX4_judgeByRules_5 : decode cX4_judgeByRules 5 = .ok (.istore 6, 2) := by decide +kernel
theorem dX4_judgeByRules_7 : decode cX4_judgeByRules 7 = .ok (.aload_n 0, 1) := by decide +kernel
theorem dX4_judgeByRules_8 : decode cX4_judgeByRules 8 = .ok (.getfield 11, 3) := by decide +kernel
theorem dX4_judgeByRules_11 : decode cX4_judgeByRules 11 = .ok (.astore 7, 2) := by decide +kernel
theorem dX4_judgeByRules_13 : decode cX4_judgeByRules 13 = .ok (.aload 7, 2) := by decide +kernel
theorem dX4_judgeByRules_15 : decode cX4_judgeByRules 15 = .ok (.arraylength, 1) := by decide +kernel
theorem dX4_judgeByRules_16 : decode cX4_judgeByRules 16 = .ok (.istore 8, 2) := by decide +kernel
theorem dX4_judgeByRules_18 : decode cX4_judgeByRules 18 = .ok (.iconst 0, 1) := by decide +kernel
theorem dX4_judgeByRules_19 : decode cX4_judgeByRules 19 = .ok (.istore 9, 2) := by decide +kernel
theorem dX4_judgeByRules_21 : decode cX4_judgeByRules 21 = .ok (.iload 9, 2) := by decide +kernel
theorem dX4_judgeByRules_23 : decode cX4_judgeByRules 23 = .ok (.iload 8, 2) := by decide +kernel
theorem dX4_judgeByRules_25 : decode cX4_judgeByRules 25 = .ok (.if_icmp .ge 32, 3) := by decide +kernel
theorem dX4_judgeByRules_28 : decode cX4_judgeByRules 28 = .ok (.aload 7, 2) := by decide +kernel
theorem dX4_judgeByRules_30 : decode cX4_judgeByRules 30 = .ok (.iload 9, 2) := by decide +kernel
theorem dX4_judgeByRules_32 : decode cX4_judgeByRules 32 = .ok (.aaload, 1) := by decide +kernel
theorem dX4_judgeByRules_33 : decode cX4_judgeByRules 33 = .ok (.astore 10, 2) := by decide +kernel
theorem dX4_judgeByRules_35 : decode cX4_judgeByRules 35 = .ok (.iload 6, 2) := by decide +kernel
theorem dX4_judgeByRules_37 : decode cX4_judgeByRules 37 = .ok (.aload 10, 2) := by decide +kernel
theorem dX4_judgeByRules_39 : decode cX4_judgeByRules 39 = .ok (.iload_n 1, 1) := by decide +kernel
theorem dX4_judgeByRules_40 : decode cX4_judgeByRules 40 = .ok (.lload_n 2, 1) := by decide +kernel
theorem dX4_judgeByRules_41 : decode cX4_judgeByRules 41 = .ok (.lload 4, 2) := by decide +kernel
theorem dX4_judgeByRules_43 : decode cX4_judgeByRules 43 = .ok (.invokevirtual 125, 3) := by decide +kernel
theorem dX4_judgeByRules_46 : decode cX4_judgeByRules 46 = .ok (.invokestatic 119, 3) := by decide +kernel
theorem dX4_judgeByRules_49 : decode cX4_judgeByRules 49 = .ok (.istore 6, 2) := by decide +kernel
theorem dX4_judgeByRules_51 : decode cX4_judgeByRules 51 = .ok (.iinc 9 1, 3) := by decide +kernel
theorem dX4_judgeByRules_54 : decode cX4_judgeByRules 54 = .ok (.goto (-33), 3) := by decide +kernel
theorem dX4_judgeByRules_57 : decode cX4_judgeByRules 57 = .ok (.iload 6, 2) := by decide +kernel
theorem dX4_judgeByRules_59 : decode cX4_judgeByRules 59 = .ok (.ireturn, 1) := by decide +kernel
theorem dX4_path_0 : decode cX4_path 0 = .ok (.iload_n 1, 1) := by decide +kernel
theorem dX4_path_1 : decode cX4_path 1 = .ok (.invokestatic 31, 3) := by decide +kernel
theorem dX4_path_4 : decode cX4_path 4 = .ok (.aload_n 0, 1) := by decide +kernel
theorem dX4_path_5 : decode cX4_path 5 = .ok (.invokevirtual 103, 3) := by decide +kernel
theorem dX4_path_8 : decode cX4_path 8 = .ok (.iconst 0, 1) := by decide +kernel
theorem dX4_path_9 : decode cX4_path 9 = .ok (.istore 6, 2) := by decide +kernel
theorem dX4_path_11 : decode cX4_path 11 = .ok (.aload_n 0, 1) := by decide +kernel
theorem dX4_path_12 : decode cX4_path 12 = .ok (.getfield 11, 3) := by decide +kernel
theorem dX4_path_15 : decode cX4_path 15 = .ok (.astore 7, 2) := by decide +kernel
theorem dX4_path_17 : decode cX4_path 17 = .ok (.aload 7, 2) := by decide +kernel
theorem dX4_path_19 : decode cX4_path 19 = .ok (.arraylength, 1) := by decide +kernel
theorem dX4_path_20 : decode cX4_path 20 = .ok (.istore 8, 2) := by decide +kernel
theorem dX4_path_22 : decode cX4_path 22 = .ok (.iconst 0, 1) := by decide +kernel
theorem dX4_path_23 : decode cX4_path 23 = .ok (.istore 9, 2) := by decide +kernel
theorem dX4_path_25 : decode cX4_path 25 = .ok (.iload 9, 2) := by decide +kernel
theorem dX4_path_27 : decode cX4_path 27 = .ok (.iload 8, 2) := by decide +kernel
theorem dX4_path_29 : decode cX4_path 29 = .ok (.if_icmp .ge 30, 3) := by decide +kernel
theorem dX4_path_32 : decode cX4_path 32 = .ok (.aload 7, 2) := by decide +kernel
theorem dX4_path_34 : decode cX4_path 34 = .ok (.iload 9, 2) := by decide +kernel
theorem dX4_path_36 : decode cX4_path 36 = .ok (.aaload, 1) := by decide +kernel
theorem dX4_path_37 : decode cX4_path 37 = .ok (.astore 10, 2) := by decide +kernel
theorem dX4_path_39 : decode cX4_path 39 = .ok (.iload 6, 2) := by decide +kernel
theorem dX4_path_41 : decode cX4_path 41 = .ok (.aload 10, 2) := by decide +kernel
theorem dX4_path_43 : decode cX4_path 43 = .ok (.iload_n 1, 1) := by decide +kernel
theorem dX4_path_44 : decode cX4_path 44 = .ok (.lload_n 2, 1) := by decide +kernel
theorem dX4_path_45 : decode cX4_path 45 = .ok (.lload 4, 2) := by decide +kernel
theorem dX4_path_47 : decode cX4_path 47 = .ok (.invokevirtual 128, 3) := by decide +kernel
theorem dX4_path_50 : decode cX4_path 50 = .ok (.iadd, 1) := by decide +kernel
theorem dX4_path_51 : decode cX4_path 51 = .ok (.istore 6, 2) := by decide +kernel
theorem dX4_path_53 : decode cX4_path 53 = .ok (.iinc 9 1, 3) := by decide +kernel
theorem dX4_path_56 : decode cX4_path 56 = .ok (.goto (-31), 3) := by decide +kernel
theorem dX4_path_59 : decode cX4_path 59 = .ok (.iload 6, 2) := by decide +kernel
theorem dX4_path_61 : decode cX4_path 61 = .ok (.ireturn, 1) := by decide +kernel
theorem dX4_actionOf_0 : decode cX4_actionOf 0 = .ok (.iload_n 1, 1) := by decide +kernel
theorem dX4_actionOf_1 : decode cX4_actionOf 1 = .ok (.invokestatic 27, 3) := by decide +kernel
theorem dX4_actionOf_4 : decode cX4_actionOf 4 = .ok (.iload_n 2, 1) := by decide +kernel
theorem dX4_actionOf_5 : decode cX4_actionOf 5 = .ok (.invokestatic 31, 3) := by decide +kernel
theorem dX4_actionOf_8 : decode cX4_actionOf 8 = .ok (.aload_n 0, 1) := by decide +kernel
theorem dX4_actionOf_9 : decode cX4_actionOf 9 = .ok (.getfield 11, 3) := by decide +kernel
theorem dX4_actionOf_12 : decode cX4_actionOf 12 = .ok (.iload_n 1, 1) := by decide +kernel
theorem dX4_actionOf_13 : decode cX4_actionOf 13 = .ok (.aaload, 1) := by decide +kernel
theorem dX4_actionOf_14 : decode cX4_actionOf 14 = .ok (.iload_n 2, 1) := by decide +kernel
theorem dX4_actionOf_15 : decode cX4_actionOf 15 = .ok (.lload_n 3, 1) := by decide +kernel
theorem dX4_actionOf_16 : decode cX4_actionOf 16 = .ok (.lload 5, 2) := by decide +kernel
theorem dX4_actionOf_18 : decode cX4_actionOf 18 = .ok (.invokevirtual 125, 3) := by decide +kernel
theorem dX4_actionOf_21 : decode cX4_actionOf 21 = .ok (.ireturn, 1) := by decide +kernel
theorem dX4_planTrees_0 : decode cX4_planTrees 0 = .ok (.aload_n 0, 1) := by decide +kernel
theorem dX4_planTrees_1 : decode cX4_planTrees 1 = .ok (.getfield 11, 3) := by decide +kernel
theorem dX4_planTrees_4 : decode cX4_planTrees 4 = .ok (.astore_n 1, 1) := by decide +kernel
theorem dX4_planTrees_5 : decode cX4_planTrees 5 = .ok (.aload_n 1, 1) := by decide +kernel
theorem dX4_planTrees_6 : decode cX4_planTrees 6 = .ok (.arraylength, 1) := by decide +kernel
theorem dX4_planTrees_7 : decode cX4_planTrees 7 = .ok (.istore_n 2, 1) := by decide +kernel
theorem dX4_planTrees_8 : decode cX4_planTrees 8 = .ok (.iconst 0, 1) := by decide +kernel
theorem dX4_planTrees_9 : decode cX4_planTrees 9 = .ok (.istore_n 3, 1) := by decide +kernel
theorem dX4_planTrees_10 : decode cX4_planTrees 10 = .ok (.iload_n 3, 1) := by decide +kernel
theorem dX4_planTrees_11 : decode cX4_planTrees 11 = .ok (.iload_n 2, 1) := by decide +kernel
theorem dX4_planTrees_12 : decode cX4_planTrees 12 = .ok (.if_icmp .ge 27, 3) := by decide +kernel
theorem dX4_planTrees_15 : decode cX4_planTrees 15 = .ok (.aload_n 1, 1) := by decide +kernel
theorem dX4_planTrees_16 : decode cX4_planTrees 16 = .ok (.iload_n 3, 1) := by decide +kernel
theorem dX4_planTrees_17 : decode cX4_planTrees 17 = .ok (.aaload, 1) := by decide +kernel
theorem dX4_planTrees_18 : decode cX4_planTrees 18 = .ok (.astore 4, 2) := by decide +kernel
theorem dX4_planTrees_20 : decode cX4_planTrees 20 = .ok (.aload 4, 2) := by decide +kernel
theorem dX4_planTrees_22 : decode cX4_planTrees 22 = .ok (.aload_n 0, 1) := by decide +kernel
theorem dX4_planTrees_23 : decode cX4_planTrees 23 = .ok (.getfield 22, 3) := by decide +kernel
theorem dX4_planTrees_26 : decode cX4_planTrees 26 = .ok (.aload_n 0, 1) := by decide +kernel
theorem dX4_planTrees_27 : decode cX4_planTrees 27 = .ok (.getfield 15, 3) := by decide +kernel
theorem dX4_planTrees_30 : decode cX4_planTrees 30 = .ok (.invokevirtual 131, 3) := by decide +kernel
theorem dX4_planTrees_33 : decode cX4_planTrees 33 = .ok (.iinc 3 1, 3) := by decide +kernel
theorem dX4_planTrees_36 : decode cX4_planTrees 36 = .ok (.goto (-26), 3) := by decide +kernel
theorem dX4_planTrees_39 : decode cX4_planTrees 39 = .ok (.return_, 1) := by decide +kernel
theorem dX4_worstPathOfAll_0 : decode cX4_worstPathOfAll 0 = .ok (.iconst 0, 1) := by decide +kernel
theorem dX4_worstPathOfAll_1 : decode cX4_worstPathOfAll 1 = .ok (.istore_n 1, 1) := by decide +kernel
theorem dX4_worstPathOfAll_2 : decode cX4_worstPathOfAll 2 = .ok (.aload_n 0, 1) := by decide +kernel
theorem dX4_worstPathOfAll_3 : decode cX4_worstPathOfAll 3 = .ok (.getfield 11, 3) := by decide +kernel
theorem dX4_worstPathOfAll_6 : decode cX4_worstPathOfAll 6 = .ok (.astore_n 2, 1) := by decide +kernel
theorem dX4_worstPathOfAll_7 : decode cX4_worstPathOfAll 7 = .ok (.aload_n 2, 1) := by decide +kernel
theorem dX4_worstPathOfAll_8 : decode cX4_worstPathOfAll 8 = .ok (.arraylength, 1) := by decide +kernel
theorem dX4_worstPathOfAll_9 : decode cX4_worstPathOfAll 9 = .ok (.istore_n 3, 1) := by decide +kernel
theorem dX4_worstPathOfAll_10 : decode cX4_worstPathOfAll 10 = .ok (.iconst 0, 1) := by decide +kernel
theorem dX4_worstPathOfAll_11 : decode cX4_worstPathOfAll 11 = .ok (.istore 4, 2) := by decide +kernel
theorem dX4_worstPathOfAll_13 : decode cX4_worstPathOfAll 13 = .ok (.iload 4, 2) := by decide +kernel
theorem dX4_worstPathOfAll_15 : decode cX4_worstPathOfAll 15 = .ok (.iload_n 3, 1) := by decide +kernel
theorem dX4_worstPathOfAll_16 : decode cX4_worstPathOfAll 16 = .ok (.if_icmp .ge 23, 3) := by decide +kernel
theorem dX4_worstPathOfAll_19 : decode cX4_worstPathOfAll 19 = .ok (.aload_n 2, 1) := by decide +kernel
theorem dX4_worstPathOfAll_20 : decode cX4_worstPathOfAll 20 = .ok (.iload 4, 2) := by decide +kernel
theorem dX4_worstPathOfAll_22 : decode cX4_worstPathOfAll 22 = .ok (.aaload, 1) := by decide +kernel
theorem dX4_worstPathOfAll_23 : decode cX4_worstPathOfAll 23 = .ok (.astore 5, 2) := by decide +kernel
theorem dX4_worstPathOfAll_25 : decode cX4_worstPathOfAll 25 = .ok (.iload_n 1, 1) := by decide +kernel
theorem dX4_worstPathOfAll_26 : decode cX4_worstPathOfAll 26 = .ok (.aload 5, 2) := by decide +kernel
theorem dX4_worstPathOfAll_28 : decode cX4_worstPathOfAll 28 = .ok (.invokevirtual 112, 3) := by decide +kernel
theorem dX4_worstPathOfAll_31 : decode cX4_worstPathOfAll 31 = .ok (.iadd, 1) := by decide +kernel
theorem dX4_worstPathOfAll_32 : decode cX4_worstPathOfAll 32 = .ok (.istore_n 1, 1) := by decide +kernel
theorem dX4_worstPathOfAll_33 : decode cX4_worstPathOfAll 33 = .ok (.iinc 4 1, 3) := by decide +kernel
theorem dX4_worstPathOfAll_36 : decode cX4_worstPathOfAll 36 = .ok (.goto (-23), 3) := by decide +kernel
theorem dX4_worstPathOfAll_39 : decode cX4_worstPathOfAll 39 = .ok (.iload_n 1, 1) := by decide +kernel
theorem dX4_worstPathOfAll_40 : decode cX4_worstPathOfAll 40 = .ok (.ireturn, 1) := by decide +kernel
theorem dX4_requireFilter_0 : decode cX4_requireFilter 0 = .ok (.iload_n 0, 1) := by decide +kernel
theorem dX4_requireFilter_1 : decode cX4_requireFilter 1 = .ok (.ifCond .lt 8, 3) := by decide +kernel
theorem dX4_requireFilter_4 : decode cX4_requireFilter 4 = .ok (.iload_n 0, 1) := by decide +kernel
theorem dX4_requireFilter_5 : decode cX4_requireFilter 5 = .ok (.iconst 4, 1) := by decide +kernel
theorem dX4_requireFilter_6 : decode cX4_requireFilter 6 = .ok (.if_icmp .lt 13, 3) := by decide +kernel
theorem dX4_requireFilter_9 : decode cX4_requireFilter 9 = .ok (.new 34, 3) := by decide +kernel
theorem dX4_requireFilter_12 : decode cX4_requireFilter 12 = .ok (.dup, 1) := by decide +kernel
theorem dX4_requireFilter_13 : decode cX4_requireFilter 13 = .ok (.ldc 135, 2) := by decide +kernel
theorem dX4_requireFilter_15 : decode cX4_requireFilter 15 = .ok (.invokespecial 38, 3) := by decide +kernel
theorem dX4_requireFilter_18 : decode cX4_requireFilter 18 = .ok (.athrow, 1) := by decide +kernel
theorem dX4_requireFilter_19 : decode cX4_requireFilter 19 = .ok (.return_, 1) := by decide +kernel
theorem dX4_requireNumber_0 : decode cX4_requireNumber 0 = .ok (.iload_n 0, 1) := by decide +kernel
theorem dX4_requireNumber_1 : decode cX4_requireNumber 1 = .ok (.ifCond .lt 9, 3) := by decide +kernel
theorem dX4_requireNumber_4 : decode cX4_requireNumber 4 = .ok (.iload_n 0, 1) := by decide +kernel
theorem dX4_requireNumber_5 : decode cX4_requireNumber 5 = .ok (.bipush 32, 2) := by decide +kernel
theorem dX4_requireNumber_7 : decode cX4_requireNumber 7 = .ok (.if_icmp .lt 13, 3) := by decide +kernel
theorem dX4_requireNumber_10 : decode cX4_requireNumber 10 = .ok (.new 34, 3) := by decide +kernel
theorem dX4_requireNumber_13 : decode cX4_requireNumber 13 = .ok (.dup, 1) := by decide +kernel
theorem dX4_requireNumber_14 : decode cX4_requireNumber 14 = .ok (.ldc 137, 2) := by decide +kernel
theorem dX4_requireNumber_16 : decode cX4_requireNumber 16 = .ok (.invokespecial 38, 3) := by decide +kernel
theorem dX4_requireNumber_19 : decode cX4_requireNumber 19 = .ok (.athrow, 1) := by decide +kernel
theorem dX4_requireNumber_20 : decode cX4_requireNumber 20 = .ok (.return_, 1) := by decide +kernel
theorem dX4_requireAction_0 : decode cX4_requireAction 0 = .ok (.iload_n 0, 1) := by decide +kernel
theorem dX4_requireAction_1 : decode cX4_requireAction 1 = .ok (.ifCond .lt 9, 3) := by decide +kernel
theorem dX4_requireAction_4 : decode cX4_requireAction 4 = .ok (.iload_n 0, 1) := by decide +kernel
theorem dX4_requireAction_5 : decode cX4_requireAction 5 = .ok (.bipush 7, 2) := by decide +kernel
theorem dX4_requireAction_7 : decode cX4_requireAction 7 = .ok (.if_icmp .lt 13, 3) := by decide +kernel
theorem dX4_requireAction_10 : decode cX4_requireAction 10 = .ok (.new 34, 3) := by decide +kernel
theorem dX4_requireAction_13 : decode cX4_requireAction 13 = .ok (.dup, 1) := by decide +kernel
theorem dX4_requireAction_14 : decode cX4_requireAction 14 = .ok (.ldc 139, 2) := by decide +kernel
theorem dX4_requireAction_16 : decode cX4_requireAction 16 = .ok (.invokespecial 38, 3) := by decide +kernel
theorem dX4_requireAction_19 : decode cX4_requireAction 19 = .ok (.athrow, 1) := by decide +kernel
theorem dX4_requireAction_20 : decode cX4_requireAction 20 = .ok (.return_, 1) := by decide +kernel
theorem dX4_requireRule_0 : decode cX4_requireRule 0 = .ok (.iload_n 2, 1) := by decide +kernel
theorem dX4_requireRule_1 : decode cX4_requireRule 1 = .ok (.ifCond .lt 19, 3) := by decide +kernel
theorem dX4_requireRule_4 : decode cX4_requireRule 4 = .ok (.iload_n 2, 1) := by decide +kernel
theorem dX4_requireRule_5 : decode cX4_requireRule 5 = .ok (.aload_n 0, 1) := by decide +kernel
theorem dX4_requireRule_6 : decode cX4_requireRule 6 = .ok (.getfield 11, 3) := by decide +kernel
theorem dX4_requireRule_9 : decode cX4_requireRule 9 = .ok (.iload_n 1, 1) := by decide +kernel
theorem dX4_requireRule_10 : decode cX4_requireRule 10 = .ok (.aaload, 1) := by decide +kernel
theorem dX4_requireRule_11 : decode cX4_requireRule 11 = .ok (.getfield 80, 3) := by decide +kernel
theorem dX4_requireRule_14 : decode cX4_requireRule 14 = .ok (.invokevirtual 84, 3) := by decide +kernel
theorem dX4_requireRule_17 : decode cX4_requireRule 17 = .ok (.if_icmp .lt 13, 3) := by decide +kernel
theorem dX4_requireRule_20 : decode cX4_requireRule 20 = .ok (.new 141, 3) := by decide +kernel
theorem dX4_requireRule_23 : decode cX4_requireRule 23 = .ok (.dup, 1) := by decide +kernel
theorem dX4_requireRule_24 : decode cX4_requireRule 24 = .ok (.ldc 143, 2) := by decide +kernel
theorem dX4_requireRule_26 : decode cX4_requireRule 26 = .ok (.invokespecial 145, 3) := by decide +kernel
theorem dX4_requireRule_29 : decode cX4_requireRule 29 = .ok (.athrow, 1) := by decide +kernel
theorem dX4_requireRule_30 : decode cX4_requireRule 30 = .ok (.return_, 1) := by decide +kernel
theorem dX4_requireCompiled_0 : decode cX4_requireCompiled 0 = .ok (.aload_n 0, 1) := by decide +kernel
theorem dX4_requireCompiled_1 : decode cX4_requireCompiled 1 = .ok (.getfield 53, 3) := by decide +kernel
theorem dX4_requireCompiled_4 : decode cX4_requireCompiled 4 = .ok (.ifCond .ne 13, 3) := by decide +kernel
theorem dX4_requireCompiled_7 : decode cX4_requireCompiled 7 = .ok (.new 48, 3) := by decide +kernel
theorem dX4_requireCompiled_10 : decode cX4_requireCompiled 10 = .ok (.dup, 1) := by decide +kernel
theorem dX4_requireCompiled_11 : decode cX4_requireCompiled 11 = .ok (.ldc 146, 2) := by decide +kernel
theorem dX4_requireCompiled_13 : decode cX4_requireCompiled 13 = .ok (.invokespecial 52, 3) := by decide +kernel
theorem dX4_requireCompiled_16 : decode cX4_requireCompiled 16 = .ok (.athrow, 1) := by decide +kernel
theorem dX4_requireCompiled_17 : decode cX4_requireCompiled 17 = .ok (.return_, 1) := by decide +kernel
