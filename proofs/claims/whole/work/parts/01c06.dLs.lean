theorem dL_add_0 : decode cL_add 0 = .ok (.aload 9, 2) := by decide +kernel
theorem dL_add_2 : decode cL_add 2 = .ok (.iconst 0, 1) := by decide +kernel
theorem dL_add_3 : decode cL_add 3 = .ok (.aload_n 0, 1) := by decide +kernel
theorem dL_add_4 : decode cL_add 4 = .ok (.iload_n 1, 1) := by decide +kernel
theorem dL_add_5 : decode cL_add 5 = .ok (.iload_n 2, 1) := by decide +kernel
theorem dL_add_6 : decode cL_add 6 = .ok (.iload_n 3, 1) := by decide +kernel
theorem dL_add_7 : decode cL_add 7 = .ok (.lload 4, 2) := by decide +kernel
theorem dL_add_9 : decode cL_add 9 = .ok (.lload 6, 2) := by decide +kernel
theorem dL_add_11 : decode cL_add 11 = .ok (.iload 8, 2) := by decide +kernel
theorem dL_add_13 : decode cL_add 13 = .ok (.invokevirtual 7, 3) := by decide +kernel
theorem dL_add_16 : decode cL_add 16 = .ok (.i2l, 1) := by decide +kernel
theorem dL_add_17 : decode cL_add 17 = .ok (.lastore, 1) := by decide +kernel
theorem dL_add_18 : decode cL_add 18 = .ok (.goto 11, 3) := by decide +kernel
theorem dL_add_21 : decode cL_add 21 = .ok (.astore 10, 2) := by decide +kernel
theorem dL_add_23 : decode cL_add 23 = .ok (.iconst 1, 1) := by decide +kernel
theorem dL_add_24 : decode cL_add 24 = .ok (.ireturn, 1) := by decide +kernel
theorem dL_add_25 : decode cL_add 25 = .ok (.astore 10, 2) := by decide +kernel
theorem dL_add_27 : decode cL_add 27 = .ok (.iconst 2, 1) := by decide +kernel
theorem dL_add_28 : decode cL_add 28 = .ok (.ireturn, 1) := by decide +kernel
theorem dL_add_29 : decode cL_add 29 = .ok (.iconst 0, 1) := by decide +kernel
theorem dL_add_30 : decode cL_add 30 = .ok (.ireturn, 1) := by decide +kernel
theorem dL_remove_0 : decode cL_remove 0 = .ok (.aload_n 3, 1) := by decide +kernel
theorem dL_remove_1 : decode cL_remove 1 = .ok (.iconst 0, 1) := by decide +kernel
theorem dL_remove_2 : decode cL_remove 2 = .ok (.aload_n 0, 1) := by decide +kernel
theorem dL_remove_3 : decode cL_remove 3 = .ok (.iload_n 1, 1) := by decide +kernel
theorem dL_remove_4 : decode cL_remove 4 = .ok (.iload_n 2, 1) := by decide +kernel
theorem dL_remove_5 : decode cL_remove 5 = .ok (.invokevirtual 17, 3) := by decide +kernel
theorem dL_remove_8 : decode cL_remove 8 = .ok (.i2l, 1) := by decide +kernel
theorem dL_remove_9 : decode cL_remove 9 = .ok (.lastore, 1) := by decide +kernel
theorem dL_remove_10 : decode cL_remove 10 = .ok (.goto 11, 3) := by decide +kernel
theorem dL_remove_13 : decode cL_remove 13 = .ok (.astore 4, 2) := by decide +kernel
theorem dL_remove_15 : decode cL_remove 15 = .ok (.iconst 1, 1) := by decide +kernel
theorem dL_remove_16 : decode cL_remove 16 = .ok (.ireturn, 1) := by decide +kernel
theorem dL_remove_17 : decode cL_remove 17 = .ok (.astore 4, 2) := by decide +kernel
theorem dL_remove_19 : decode cL_remove 19 = .ok (.iconst 2, 1) := by decide +kernel
theorem dL_remove_20 : decode cL_remove 20 = .ok (.ireturn, 1) := by decide +kernel
theorem dL_remove_21 : decode cL_remove 21 = .ok (.iconst 0, 1) := by decide +kernel
theorem dL_remove_22 : decode cL_remove 22 = .ok (.ireturn, 1) := by decide +kernel
theorem dL_setDefault_0 : decode cL_setDefault 0 = .ok (.aload_n 3, 1) := by decide +kernel
theorem dL_setDefault_1 : decode cL_setDefault 1 = .ok (.iconst 0, 1) := by decide +kernel
theorem dL_setDefault_2 : decode cL_setDefault 2 = .ok (.aload_n 0, 1) := by decide +kernel
theorem dL_setDefault_3 : decode cL_setDefault 3 = .ok (.iload_n 1, 1) := by decide +kernel
theorem dL_setDefault_4 : decode cL_setDefault 4 = .ok (.iload_n 2, 1) := by decide +kernel
theorem dL_setDefault_5 : decode cL_setDefault 5 = .ok (.invokevirtual 23, 3) := by decide +kernel
theorem dL_setDefault_8 : decode cL_setDefault 8 = .ok (.i2l, 1) := by decide +kernel
theorem dL_setDefault_9 : decode cL_setDefault 9 = .ok (.lastore, 1) := by decide +kernel
theorem dL_setDefault_10 : decode cL_setDefault 10 = .ok (.goto 7, 3) := by decide +kernel
theorem dL_setDefault_13 : decode cL_setDefault 13 = .ok (.astore 4, 2) := by decide +kernel
theorem dL_setDefault_15 : decode cL_setDefault 15 = .ok (.iconst 1, 1) := by decide +kernel
theorem dL_setDefault_16 : decode cL_setDefault 16 = .ok (.ireturn, 1) := by decide +kernel
theorem dL_setDefault_17 : decode cL_setDefault 17 = .ok (.iconst 0, 1) := by decide +kernel
theorem dL_setDefault_18 : decode cL_setDefault 18 = .ok (.ireturn, 1) := by decide +kernel
theorem dL_setFrequency_0 : decode cL_setFrequency 0 = .ok (.aload_n 3, 1) := by decide +kernel
theorem dL_setFrequency_1 : decode cL_setFrequency 1 = .ok (.iconst 0, 1) := by decide +kernel
theorem dL_setFrequency_2 : decode cL_setFrequency 2 = .ok (.aload_n 0, 1) := by decide +kernel
theorem dL_setFrequency_3 : decode cL_setFrequency 3 = .ok (.iload_n 1, 1) := by decide +kernel
theorem dL_setFrequency_4 : decode cL_setFrequency 4 = .ok (.iload_n 2, 1) := by decide +kernel
theorem dL_setFrequency_5 : decode cL_setFrequency 5 = .ok (.invokevirtual 26, 3) := by decide +kernel
theorem dL_setFrequency_8 : decode cL_setFrequency 8 = .ok (.i2l, 1) := by decide +kernel
theorem dL_setFrequency_9 : decode cL_setFrequency 9 = .ok (.lastore, 1) := by decide +kernel
theorem dL_setFrequency_10 : decode cL_setFrequency 10 = .ok (.goto 7, 3) := by decide +kernel
theorem dL_setFrequency_13 : decode cL_setFrequency 13 = .ok (.astore 4, 2) := by decide +kernel
theorem dL_setFrequency_15 : decode cL_setFrequency 15 = .ok (.iconst 1, 1) := by decide +kernel
theorem dL_setFrequency_16 : decode cL_setFrequency 16 = .ok (.ireturn, 1) := by decide +kernel
theorem dL_setFrequency_17 : decode cL_setFrequency 17 = .ok (.iconst 0, 1) := by decide +kernel
theorem dL_setFrequency_18 : decode cL_setFrequency 18 = .ok (.ireturn, 1) := by decide +kernel
theorem dL_rules_0 : decode cL_rules 0 = .ok (.aload_n 2, 1) := by decide +kernel
theorem dL_rules_1 : decode cL_rules 1 = .ok (.iconst 0, 1) := by decide +kernel
theorem dL_rules_2 : decode cL_rules 2 = .ok (.aload_n 0, 1) := by decide +kernel
theorem dL_rules_3 : decode cL_rules 3 = .ok (.iload_n 1, 1) := by decide +kernel
theorem dL_rules_4 : decode cL_rules 4 = .ok (.invokevirtual 29, 3) := by decide +kernel
theorem dL_rules_7 : decode cL_rules 7 = .ok (.i2l, 1) := by decide +kernel
theorem dL_rules_8 : decode cL_rules 8 = .ok (.lastore, 1) := by decide +kernel
theorem dL_rules_9 : decode cL_rules 9 = .ok (.goto 6, 3) := by decide +kernel
theorem dL_rules_12 : decode cL_rules 12 = .ok (.astore_n 3, 1) := by decide +kernel
theorem dL_rules_13 : decode cL_rules 13 = .ok (.iconst 1, 1) := by decide +kernel
theorem dL_rules_14 : decode cL_rules 14 = .ok (.ireturn, 1) := by decide +kernel
theorem dL_rules_15 : decode cL_rules 15 = .ok (.iconst 0, 1) := by decide +kernel
theorem dL_rules_16 : decode cL_rules 16 = .ok (.ireturn, 1) := by decide +kernel
theorem dL_hider_0 : decode cL_hider 0 = .ok (.aload_n 3, 1) := by decide +kernel
theorem dL_hider_1 : decode cL_hider 1 = .ok (.iconst 0, 1) := by decide +kernel
theorem dL_hider_2 : decode cL_hider 2 = .ok (.aload_n 0, 1) := by decide +kernel
theorem dL_hider_3 : decode cL_hider 3 = .ok (.iload_n 1, 1) := by decide +kernel
theorem dL_hider_4 : decode cL_hider 4 = .ok (.iload_n 2, 1) := by decide +kernel
theorem dL_hider_5 : decode cL_hider 5 = .ok (.invokevirtual 33, 3) := by decide +kernel
theorem dL_hider_8 : decode cL_hider 8 = .ok (.i2l, 1) := by decide +kernel
theorem dL_hider_9 : decode cL_hider 9 = .ok (.lastore, 1) := by decide +kernel
theorem dL_hider_10 : decode cL_hider 10 = .ok (.goto 11, 3) := by decide +kernel
theorem dL_hider_13 : decode cL_hider 13 = .ok (.astore 4, 2) := by decide +kernel
theorem dL_hider_15 : decode cL_hider 15 = .ok (.iconst 1, 1) := by decide +kernel
theorem dL_hider_16 : decode cL_hider 16 = .ok (.ireturn, 1) := by decide +kernel
theorem dL_hider_17 : decode cL_hider 17 = .ok (.astore 4, 2) := by decide +kernel
theorem dL_hider_19 : decode cL_hider 19 = .ok (.iconst 2, 1) := by decide +kernel
theorem dL_hider_20 : decode cL_hider 20 = .ok (.ireturn, 1) := by decide +kernel
theorem dL_hider_21 : decode cL_hider 21 = .ok (.iconst 0, 1) := by decide +kernel
theorem dL_hider_22 : decode cL_hider 22 = .ok (.ireturn, 1) := by decide +kernel
theorem dL_compile_0 : decode cL_compile 0 = .ok (.aload_n 2, 1) := by decide +kernel
theorem dL_compile_1 : decode cL_compile 1 = .ok (.iconst 0, 1) := by decide +kernel
theorem dL_compile_2 : decode cL_compile 2 = .ok (.aload_n 0, 1) := by decide +kernel
theorem dL_compile_3 : decode cL_compile 3 = .ok (.iload_n 1, 1) := by decide +kernel
theorem dL_compile_4 : decode cL_compile 4 = .ok (.invokevirtual 36, 3) := by decide +kernel
theorem dL_compile_7 : decode cL_compile 7 = .ok (.i2l, 1) := by decide +kernel
theorem dL_compile_8 : decode cL_compile 8 = .ok (.lastore, 1) := by decide +kernel
theorem dL_compile_9 : decode cL_compile 9 = .ok (.goto 6, 3) := by decide +kernel
theorem dL_compile_12 : decode cL_compile 12 = .ok (.astore_n 3, 1) := by decide +kernel
theorem dL_compile_13 : decode cL_compile 13 = .ok (.iconst 1, 1) := by decide +kernel
theorem dL_compile_14 : decode cL_compile 14 = .ok (.ireturn, 1) := by decide +kernel
theorem dL_compile_15 : decode cL_compile 15 = .ok (.iconst 0, 1) := by decide +kernel
theorem dL_compile_16 : decode cL_compile 16 = .ok (.ireturn, 1) := by decide +kernel
theorem dL_test_0 : decode cL_test 0 = .ok (.aload_n 3, 1) := by decide +kernel
theorem dL_test_1 : decode cL_test 1 = .ok (.iconst 0, 1) := by decide +kernel
theorem dL_test_2 : decode cL_test 2 = .ok (.aload_n 0, 1) := by decide +kernel
theorem dL_test_3 : decode cL_test 3 = .ok (.iload_n 1, 1) := by decide +kernel
theorem dL_test_4 : decode cL_test 4 = .ok (.iload_n 2, 1) := by decide +kernel
theorem dL_test_5 : decode cL_test 5 = .ok (.invokevirtual 39, 3) := by decide +kernel
theorem dL_test_8 : decode cL_test 8 = .ok (.i2l, 1) := by decide +kernel
theorem dL_test_9 : decode cL_test 9 = .ok (.lastore, 1) := by decide +kernel
theorem dL_test_10 : decode cL_test 10 = .ok (.goto 11, 3) := by decide +kernel
theorem dL_test_13 : decode cL_test 13 = .ok (.astore 4, 2) := by decide +kernel
theorem dL_test_15 : decode cL_test 15 = .ok (.iconst 1, 1) := by decide +kernel
theorem dL_test_16 : decode cL_test 16 = .ok (.ireturn, 1) := by decide +kernel
theorem dL_test_17 : decode cL_test 17 = .ok (.astore 4, 2) := by decide +kernel
theorem dL_test_19 : decode cL_test 19 = .ok (.iconst 2, 1) := by decide +kernel
theorem dL_test_20 : decode cL_test 20 = .ok (.ireturn, 1) := by decide +kernel
theorem dL_test_21 : decode cL_test 21 = .ok (.iconst 0, 1) := by decide +kernel
theorem dL_test_22 : decode cL_test 22 = .ok (.ireturn, 1) := by decide +kernel
theorem dL_cost_0 : decode cL_cost 0 = .ok (.aload_n 2, 1) := by decide +kernel
theorem dL_cost_1 : decode cL_cost 1 = .ok (.iconst 0, 1) := by decide +kernel
theorem dL_cost_2 : decode cL_cost 2 = .ok (.aload_n 0, 1) := by decide +kernel
theorem dL_cost_3 : decode cL_cost 3 = .ok (.iload_n 1, 1) := by decide +kernel
theorem dL_cost_4 : decode cL_cost 4 = .ok (.invokevirtual 42, 3) := by decide +kernel
theorem dL_cost_7 : decode cL_cost 7 = .ok (.i2l, 1) := by decide +kernel
theorem dL_cost_8 : decode cL_cost 8 = .ok (.lastore, 1) := by decide +kernel
theorem dL_cost_9 : decode cL_cost 9 = .ok (.goto 9, 3) := by decide +kernel
theorem dL_cost_12 : decode cL_cost 12 = .ok (.astore_n 3, 1) := by decide +kernel
theorem dL_cost_13 : decode cL_cost 13 = .ok (.iconst 1, 1) := by decide +kernel
theorem dL_cost_14 : decode cL_cost 14 = .ok (.ireturn, 1) := by decide +kernel
theorem dL_cost_15 : decode cL_cost 15 = .ok (.astore_n 3, 1) := by decide +kernel
theorem dL_cost_16 : decode cL_cost 16 = .ok (.iconst 2, 1) := by decide +kernel
theorem dL_cost_17 : decode cL_cost 17 = .ok (.ireturn, 1) := by decide +kernel
theorem dL_cost_18 : decode cL_cost 18 = .ok (.iconst 0, 1) := by decide +kernel
theorem dL_cost_19 : decode cL_cost 19 = .ok (.ireturn, 1) := by decide +kernel
theorem dL_worst_0 : decode cL_worst 0 = .ok (.aload_n 2, 1) := by decide +kernel
theorem dL_worst_1 : decode cL_worst 1 = .ok (.iconst 0, 1) := by decide +kernel
theorem dL_worst_2 : decode cL_worst 2 = .ok (.aload_n 0, 1) := by decide +kernel
theorem dL_worst_3 : decode cL_worst 3 = .ok (.iload_n 1, 1) := by decide +kernel
theorem dL_worst_4 : decode cL_worst 4 = .ok (.invokevirtual 45, 3) := by decide +kernel
theorem dL_worst_7 : decode cL_worst 7 = .ok (.i2l, 1) := by decide +kernel
theorem dL_worst_8 : decode cL_worst 8 = .ok (.lastore, 1) := by decide +kernel
theorem dL_worst_9 : decode cL_worst 9 = .ok (.goto 9, 3) := by decide +kernel
theorem dL_worst_12 : decode cL_worst 12 = .ok (.astore_n 3, 1) := by decide +kernel
theorem dL_worst_13 : decode cL_worst 13 = .ok (.iconst 1, 1) := by decide +kernel
theorem dL_worst_14 : decode cL_worst 14 = .ok (.ireturn, 1) := by decide +kernel
theorem dL_worst_15 : decode cL_worst 15 = .ok (.astore_n 3, 1) := by decide +kernel
theorem dL_worst_16 : decode cL_worst 16 = .ok (.iconst 2, 1) := by decide +kernel
theorem dL_worst_17 : decode cL_worst 17 = .ok (.ireturn, 1) := by decide +kernel
theorem dL_worst_18 : decode cL_worst 18 = .ok (.iconst 0, 1) := by decide +kernel
theorem dL_worst_19 : decode cL_worst 19 = .ok (.ireturn, 1) := by decide +kernel
theorem dL_judge_0 : decode cL_judge 0 = .ok (.aload 6, 2) := by decide +kernel
theorem dL_judge_2 : decode cL_judge 2 = .ok (.iconst 0, 1) := by decide +kernel
theorem dL_judge_3 : decode cL_judge 3 = .ok (.aload_n 0, 1) := by decide +kernel
theorem dL_judge_4 : decode cL_judge 4 = .ok (.iload_n 1, 1) := by decide +kernel
theorem dL_judge_5 : decode cL_judge 5 = .ok (.lload_n 2, 1) := by decide +kernel
theorem dL_judge_6 : decode cL_judge 6 = .ok (.lload 4, 2) := by decide +kernel
theorem dL_judge_8 : decode cL_judge 8 = .ok (.invokevirtual 48, 3) := by decide +kernel
theorem dL_judge_11 : decode cL_judge 11 = .ok (.i2l, 1) := by decide +kernel
theorem dL_judge_12 : decode cL_judge 12 = .ok (.lastore, 1) := by decide +kernel
theorem dL_judge_13 : decode cL_judge 13 = .ok (.goto 11, 3) := by decide +kernel
theorem dL_judge_16 : decode cL_judge 16 = .ok (.astore 7, 2) := by decide +kernel
theorem dL_judge_18 : decode cL_judge 18 = .ok (.iconst 1, 1) := by decide +kernel
theorem dL_judge_19 : decode cL_judge 19 = .ok (.ireturn, 1) := by decide +kernel
theorem dL_judge_20 : decode cL_judge 20 = .ok (.astore 7, 2) := by decide +kernel
theorem dL_judge_22 : decode cL_judge 22 = .ok (.iconst 2, 1) := by decide +kernel
theorem dL_judge_23 : decode cL_judge 23 = .ok (.ireturn, 1) := by decide +kernel
theorem dL_judge_24 : decode cL_judge 24 = .ok (.iconst 0, 1) := by decide +kernel
theorem dL_judge_25 : decode cL_judge 25 = .ok (.ireturn, 1) := by decide +kernel
theorem dL_judgeByRules_0 : decode cL_judgeByRules 0 = .ok (.aload 6, 2) := by decide +kernel
theorem dL_judgeByRules_2 : decode cL_judgeByRules 2 = .ok (.iconst 0, 1) := by decide +kernel
theorem dL_judgeByRules_3 : decode cL_judgeByRules 3 = .ok (.aload_n 0, 1) := by decide +kernel
theorem dL_judgeByRules_4 : decode cL_judgeByRules 4 = .ok (.iload_n 1, 1) := by decide +kernel
theorem dL_judgeByRules_5 : decode cL_judgeByRules 5 = .ok (.lload_n 2, 1) := by decide +kernel
theorem dL_judgeByRules_6 : decode cL_judgeByRules 6 = .ok (.lload 4, 2) := by decide +kernel
theorem dL_judgeByRules_8 : decode cL_judgeByRules 8 = .ok (.invokevirtual 52, 3) := by decide +kernel
theorem dL_judgeByRules_11 : decode cL_judgeByRules 11 = .ok (.i2l, 1) := by decide +kernel
theorem dL_judgeByRules_12 : decode cL_judgeByRules 12 = .ok (.lastore, 1) := by decide +kernel
theorem dL_judgeByRules_13 : decode cL_judgeByRules 13 = .ok (.goto 7, 3) := by decide +kernel
theorem dL_judgeByRules_16 : decode cL_judgeByRules 16 = .ok (.astore 7, 2) := by decide +kernel
theorem dL_judgeByRules_18 : decode cL_judgeByRules 18 = .ok (.iconst 1, 1) := by decide +kernel
theorem dL_judgeByRules_19 : decode cL_judgeByRules 19 = .ok (.ireturn, 1) := by decide +kernel
theorem dL_judgeByRules_20 : decode cL_judgeByRules 20 = .ok (.iconst 0, 1) := by decide +kernel
theorem dL_judgeByRules_21 : decode cL_judgeByRules 21 = .ok (.ireturn, 1) := by decide +kernel
theorem dL_path_0 : decode cL_path 0 = .ok (.aload 6, 2) := by decide +kernel
theorem dL_path_2 : decode cL_path 2 = .ok (.iconst 0, 1) := by decide +kernel
theorem dL_path_3 : decode cL_path 3 = .ok (.aload_n 0, 1) := by decide +kernel
theorem dL_path_4 : decode cL_path 4 = .ok (.iload_n 1, 1) := by decide +kernel
theorem dL_path_5 : decode cL_path 5 = .ok (.lload_n 2, 1) := by decide +kernel
theorem dL_path_6 : decode cL_path 6 = .ok (.lload 4, 2) := by decide +kernel
theorem dL_path_8 : decode cL_path 8 = .ok (.invokevirtual 55, 3) := by decide +kernel
theorem dL_path_11 : decode cL_path 11 = .ok (.i2l, 1) := by decide +kernel
theorem dL_path_12 : decode cL_path 12 = .ok (.lastore, 1) := by decide +kernel
theorem dL_path_13 : decode cL_path 13 = .ok (.goto 11, 3) := by decide +kernel
theorem dL_path_16 : decode cL_path 16 = .ok (.astore 7, 2) := by decide +kernel
theorem dL_path_18 : decode cL_path 18 = .ok (.iconst 1, 1) := by decide +kernel
theorem dL_path_19 : decode cL_path 19 = .ok (.ireturn, 1) := by decide +kernel
theorem dL_path_20 : decode cL_path 20 = .ok (.astore 7, 2) := by decide +kernel
theorem dL_path_22 : decode cL_path 22 = .ok (.iconst 2, 1) := by decide +kernel
theorem dL_path_23 : decode cL_path 23 = .ok (.ireturn, 1) := by decide +kernel
theorem dL_path_24 : decode cL_path 24 = .ok (.iconst 0, 1) := by decide +kernel
theorem dL_path_25 : decode cL_path 25 = .ok (.ireturn, 1) := by decide +kernel
theorem dL_actionOf_0 : decode cL_actionOf 0 = .ok (.aload 7, 2) := by decide +kernel
theorem dL_actionOf_2 : decode cL_actionOf 2 = .ok (.iconst 0, 1) := by decide +kernel
theorem dL_actionOf_3 : decode cL_actionOf 3 = .ok (.aload_n 0, 1) := by decide +kernel
theorem dL_actionOf_4 : decode cL_actionOf 4 = .ok (.iload_n 1, 1) := by decide +kernel
theorem dL_actionOf_5 : decode cL_actionOf 5 = .ok (.iload_n 2, 1) := by decide +kernel
theorem dL_actionOf_6 : decode cL_actionOf 6 = .ok (.lload_n 3, 1) := by decide +kernel
theorem dL_actionOf_7 : decode cL_actionOf 7 = .ok (.lload 5, 2) := by decide +kernel
theorem dL_actionOf_9 : decode cL_actionOf 9 = .ok (.invokevirtual 58, 3) := by decide +kernel
theorem dL_actionOf_12 : decode cL_actionOf 12 = .ok (.i2l, 1) := by decide +kernel
theorem dL_actionOf_13 : decode cL_actionOf 13 = .ok (.lastore, 1) := by decide +kernel
theorem dL_actionOf_14 : decode cL_actionOf 14 = .ok (.goto 7, 3) := by decide +kernel
theorem dL_actionOf_17 : decode cL_actionOf 17 = .ok (.astore 8, 2) := by decide +kernel
theorem dL_actionOf_19 : decode cL_actionOf 19 = .ok (.iconst 1, 1) := by decide +kernel
theorem dL_actionOf_20 : decode cL_actionOf 20 = .ok (.ireturn, 1) := by decide +kernel
theorem dL_actionOf_21 : decode cL_actionOf 21 = .ok (.iconst 0, 1) := by decide +kernel
theorem dL_actionOf_22 : decode cL_actionOf 22 = .ok (.ireturn, 1) := by decide +kernel
