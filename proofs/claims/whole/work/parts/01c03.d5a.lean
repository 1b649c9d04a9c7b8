theorem dX5_init_0 : decode cX5_init 0 = .ok (.aload_n 0, 1) := by decide +kernel
theorem dX5_init_1 : decode cX5_init 1 = .ok (.invokespecial 1, 3) := by decide +kernel
theorem dX5_init_4 : decode cX5_init 4 = .ok (.aload_n 0, 1) := by decide +kernel
theorem dX5_init_5 : decode cX5_init 5 = .ok (.bipush 40, 2) := by decide +kernel
theorem dX5_init_7 : decode cX5_init 7 = .ok (.newarray .int, 2) := by decide +kernel
theorem dX5_init_9 : decode cX5_init 9 = .ok (.putfield 7, 3) := by decide +kernel
theorem dX5_init_12 : decode cX5_init 12 = .ok (.aload_n 0, 1) := by decide +kernel
theorem dX5_init_13 : decode cX5_init 13 = .ok (.bipush 40, 2) := by decide +kernel
theorem dX5_init_15 : decode cX5_init 15 = .ok (.newarray .int, 2) := by decide +kernel
theorem dX5_init_17 : decode cX5_init 17 = .ok (.putfield 13, 3) := by decide +kernel
theorem dX5_init_20 : decode cX5_init 20 = .ok (.aload_n 0, 1) := by decide +kernel
theorem dX5_init_21 : decode cX5_init 21 = .ok (.bipush 40, 2) := by decide +kernel
theorem dX5_init_23 : decode cX5_init 23 = .ok (.newarray .long, 2) := by decide +kernel
theorem dX5_init_25 : decode cX5_init 25 = .ok (.putfield 16, 3) := by decide +kernel
theorem dX5_init_28 : decode cX5_init 28 = .ok (.aload_n 0, 1) := by decide +kernel
theorem dX5_init_29 : decode cX5_init 29 = .ok (.bipush 40, 2) := by decide +kernel
theorem dX5_init_31 : decode cX5_init 31 = .ok (.newarray .long, 2) := by decide +kernel
theorem dX5_init_33 : decode cX5_init 33 = .ok (.putfield 20, 3) := by decide +kernel
theorem dX5_init_36 : decode cX5_init 36 = .ok (.aload_n 0, 1) := by decide +kernel
theorem dX5_init_37 : decode cX5_init 37 = .ok (.bipush 40, 2) := by decide +kernel
theorem dX5_init_39 : decode cX5_init 39 = .ok (.newarray .int, 2) := by decide +kernel
theorem dX5_init_41 : decode cX5_init 41 = .ok (.putfield 23, 3) := by decide +kernel
theorem dX5_init_44 : decode cX5_init 44 = .ok (.aload_n 0, 1) := by decide +kernel
theorem dX5_init_45 : decode cX5_init 45 = .ok (.iconst 4, 1) := by decide +kernel
theorem dX5_init_46 : decode cX5_init 46 = .ok (.newarray .int, 2) := by decide +kernel
theorem dX5_init_48 : decode cX5_init 48 = .ok (.putfield 26, 3) := by decide +kernel
theorem dX5_init_51 : decode cX5_init 51 = .ok (.aload_n 0, 1) := by decide +kernel
theorem dX5_init_52 : decode cX5_init 52 = .ok (.iconst 4, 1) := by decide +kernel
theorem dX5_init_53 : decode cX5_init 53 = .ok (.newarray .int, 2) := by decide +kernel
theorem dX5_init_55 : decode cX5_init 55 = .ok (.putfield 29, 3) := by decide +kernel
theorem dX5_init_58 : decode cX5_init 58 = .ok (.aload_n 0, 1) := by decide +kernel
theorem dX5_init_59 : decode cX5_init 59 = .ok (.bipush 32, 2) := by decide +kernel
theorem dX5_init_61 : decode cX5_init 61 = .ok (.newarray .int, 2) := by decide +kernel
theorem dX5_init_63 : decode cX5_init 63 = .ok (.putfield 32, 3) := by decide +kernel
theorem dX5_init_66 : decode cX5_init 66 = .ok (.aload_n 0, 1) := by decide +kernel
theorem dX5_init_67 : decode cX5_init 67 = .ok (.bipush 10, 2) := by decide +kernel
theorem dX5_init_69 : decode cX5_init 69 = .ok (.newarray .int, 2) := by decide +kernel
theorem dX5_init_71 : decode cX5_init 71 = .ok (.putfield 35, 3) := by decide +kernel
theorem dX5_init_74 : decode cX5_init 74 = .ok (.aload_n 0, 1) := by decide +kernel
theorem dX5_init_75 : decode cX5_init 75 = .ok (.bipush 100, 2) := by decide +kernel
theorem dX5_init_77 : decode cX5_init 77 = .ok (.newarray .int, 2) := by decide +kernel
theorem dX5_init_79 : decode cX5_init 79 = .ok (.putfield 38, 3) := by decide +kernel
theorem dX5_init_82 : decode cX5_init 82 = .ok (.aload_n 0, 1) := by decide +kernel
theorem dX5_init_83 : decode cX5_init 83 = .ok (.bipush 100, 2) := by decide +kernel
theorem dX5_init_85 : decode cX5_init 85 = .ok (.newarray .int, 2) := by decide +kernel
theorem dX5_init_87 : decode cX5_init 87 = .ok (.putfield 41, 3) := by decide +kernel
theorem dX5_init_90 : decode cX5_init 90 = .ok (.return_, 1) := by decide +kernel
theorem dX5_thrown_0 : decode cX5_thrown 0 = .ok (.aload_n 0, 1) := by decide +kernel
theorem dX5_thrown_1 : decode cX5_thrown 1 = .ok (.getfield 44, 3) := by decide +kernel
theorem dX5_thrown_4 : decode cX5_thrown 4 = .ok (.ireturn, 1) := by decide +kernel
theorem dX5_goesWell_0 : decode cX5_goesWell 0 = .ok (.aload_n 0, 1) := by decide +kernel
theorem dX5_goesWell_1 : decode cX5_goesWell 1 = .ok (.iload_n 1, 1) := by decide +kernel
theorem dX5_goesWell_2 : decode cX5_goesWell 2 = .ok (.putfield 44, 3) := by decide +kernel
theorem dX5_goesWell_5 : decode cX5_goesWell 5 = .ok (.iload_n 1, 1) := by decide +kernel
theorem dX5_goesWell_6 : decode cX5_goesWell 6 = .ok (.ifCond .ne 7, 3) := by decide +kernel
theorem dX5_goesWell_9 : decode cX5_goesWell 9 = .ok (.iconst 1, 1) := by decide +kernel
theorem dX5_goesWell_10 : decode cX5_goesWell 10 = .ok (.goto 4, 3) := by decide +kernel
theorem dX5_goesWell_13 : decode cX5_goesWell 13 = .ok (.iconst 0, 1) := by decide +kernel
theorem dX5_goesWell_14 : decode cX5_goesWell 14 = .ok (.ireturn, 1) := by decide +kernel
theorem dX5_in_0 : decode cX5_in 0 = .ok (.iload_n 0, 1) := by decide +kernel
theorem dX5_in_1 : decode cX5_in 1 = .ok (.iload_n 1, 1) := by decide +kernel
theorem dX5_in_2 : decode cX5_in 2 = .ok (.if_icmp .lt 12, 3) := by decide +kernel
theorem dX5_in_5 : decode cX5_in 5 = .ok (.iload_n 0, 1) := by decide +kernel
theorem dX5_in_6 : decode cX5_in 6 = .ok (.iload_n 2, 1) := by decide +kernel
theorem dX5_in_7 : decode cX5_in 7 = .ok (.if_icmp .gt 7, 3) := by decide +kernel
theorem dX5_in_10 : decode cX5_in 10 = .ok (.iconst 1, 1) := by decide +kernel
theorem dX5_in_11 : decode cX5_in 11 = .ok (.goto 4, 3) := by decide +kernel
theorem dX5_in_14 : decode cX5_in 14 = .ok (.iconst 0, 1) := by decide +kernel
theorem dX5_in_15 : decode cX5_in 15 = .ok (.ireturn, 1) := by decide +kernel
theorem dX5_isFilter_0 : decode cX5_isFilter 0 = .ok (.iload_n 0, 1) := by decide +kernel
theorem dX5_isFilter_1 : decode cX5_isFilter 1 = .ok (.iconst 0, 1) := by decide +kernel
theorem dX5_isFilter_2 : decode cX5_isFilter 2 = .ok (.iconst 3, 1) := by decide +kernel
theorem dX5_isFilter_3 : decode cX5_isFilter 3 = .ok (.invokestatic 48, 3) := by decide +kernel
theorem dX5_isFilter_6 : decode cX5_isFilter 6 = .ok (.ireturn, 1) := by decide +kernel
theorem dX5_isNumber_0 : decode cX5_isNumber 0 = .ok (.iload_n 0, 1) := by decide +kernel
theorem dX5_isNumber_1 : decode cX5_isNumber 1 = .ok (.iconst 0, 1) := by decide +kernel
theorem dX5_isNumber_2 : decode cX5_isNumber 2 = .ok (.bipush 31, 2) := by decide +kernel
theorem dX5_isNumber_4 : decode cX5_isNumber 4 = .ok (.invokestatic 48, 3) := by decide +kernel
theorem dX5_isNumber_7 : decode cX5_isNumber 7 = .ok (.ireturn, 1) := by decide +kernel
theorem dX5_isRule_0 : decode cX5_isRule 0 = .ok (.iload_n 1, 1) := by decide +kernel
theorem dX5_isRule_1 : decode cX5_isRule 1 = .ok (.invokestatic 52, 3) := by decide +kernel
theorem dX5_isRule_4 : decode cX5_isRule 4 = .ok (.ifCond .eq 23, 3) := by decide +kernel
theorem dX5_isRule_7 : decode cX5_isRule 7 = .ok (.iload_n 2, 1) := by decide +kernel
theorem dX5_isRule_8 : decode cX5_isRule 8 = .ok (.iconst 0, 1) := by decide +kernel
theorem dX5_isRule_9 : decode cX5_isRule 9 = .ok (.aload_n 0, 1) := by decide +kernel
theorem dX5_isRule_10 : decode cX5_isRule 10 = .ok (.getfield 26, 3) := by decide +kernel
theorem dX5_isRule_13 : decode cX5_isRule 13 = .ok (.iload_n 1, 1) := by decide +kernel
theorem dX5_isRule_14 : decode cX5_isRule 14 = .ok (.iaload, 1) := by decide +kernel
theorem dX5_isRule_15 : decode cX5_isRule 15 = .ok (.iconst 1, 1) := by decide +kernel
theorem dX5_isRule_16 : decode cX5_isRule 16 = .ok (.isub, 1) := by decide +kernel
theorem dX5_isRule_17 : decode cX5_isRule 17 = .ok (.invokestatic 48, 3) := by decide +kernel
theorem dX5_isRule_20 : decode cX5_isRule 20 = .ok (.ifCond .eq 7, 3) := by decide +kernel
theorem dX5_isRule_23 : decode cX5_isRule 23 = .ok (.iconst 1, 1) := by decide +kernel
theorem dX5_isRule_24 : decode cX5_isRule 24 = .ok (.goto 4, 3) := by decide +kernel
theorem dX5_isRule_27 : decode cX5_isRule 27 = .ok (.iconst 0, 1) := by decide +kernel
theorem dX5_isRule_28 : decode cX5_isRule 28 = .ok (.ireturn, 1) := by decide +kernel
theorem dX5_add_0 : decode cX5_add 0 = .ok (.iload_n 1, 1) := by decide +kernel
theorem dX5_add_1 : decode cX5_add 1 = .ok (.invokestatic 52, 3) := by decide +kernel
theorem dX5_add_4 : decode cX5_add 4 = .ok (.ifCond .eq 34, 3) := by decide +kernel
theorem dX5_add_7 : decode cX5_add 7 = .ok (.iload_n 2, 1) := by decide +kernel
theorem dX5_add_8 : decode cX5_add 8 = .ok (.invokestatic 56, 3) := by decide +kernel
theorem dX5_add_11 : decode cX5_add 11 = .ok (.ifCond .eq 27, 3) := by decide +kernel
theorem dX5_add_14 : decode cX5_add 14 = .ok (.iload_n 3, 1) := by decide +kernel
theorem dX5_add_15 : decode cX5_add 15 = .ok (.iconst 0, 1) := by decide +kernel
theorem dX5_add_16 : decode cX5_add 16 = .ok (.iconst 1, 1) := by decide +kernel
theorem dX5_add_17 : decode cX5_add 17 = .ok (.invokestatic 48, 3) := by decide +kernel
theorem dX5_add_20 : decode cX5_add 20 = .ok (.ifCond .eq 18, 3) := by decide +kernel
theorem dX5_add_23 : decode cX5_add 23 = .ok (.iload 8, 2) := by decide +kernel
theorem dX5_add_25 : decode cX5_add 25 = .ok (.iconst 0, 1) := by decide +kernel
theorem dX5_add_26 : decode cX5_add 26 = .ok (.bipush 6, 2) := by decide +kernel
theorem dX5_add_28 : decode cX5_add 28 = .ok (.invokestatic 48, 3) := by decide +kernel
theorem dX5_add_31 : decode cX5_add 31 = .ok (.ifCond .eq 7, 3) := by decide +kernel
theorem dX5_add_34 : decode cX5_add 34 = .ok (.iconst 1, 1) := by decide +kernel
theorem dX5_add_35 : decode cX5_add 35 = .ok (.goto 4, 3) := by decide +kernel
theorem dX5_add_38 : decode cX5_add 38 = .ok (.iconst 0, 1) := by decide +kernel
theorem dX5_add_39 : decode cX5_add 39 = .ok (.istore 9, 2) := by decide +kernel
theorem dX5_add_41 : decode cX5_add 41 = .ok (.aload_n 0, 1) := by decide +kernel
theorem dX5_add_42 : decode cX5_add 42 = .ok (.iload 9, 2) := by decide +kernel
theorem dX5_add_44 : decode cX5_add 44 = .ok (.ifCond .ne 7, 3) := by decide +kernel
theorem dX5_add_47 : decode cX5_add 47 = .ok (.iconst 1, 1) := by decide +kernel
theorem dX5_add_48 : decode cX5_add 48 = .ok (.goto 19, 3) := by decide +kernel
theorem dX5_add_51 : decode cX5_add 51 = .ok (.aload_n 0, 1) := by decide +kernel
theorem dX5_add_52 : decode cX5_add 52 = .ok (.getfield 26, 3) := by decide +kernel
theorem dX5_add_55 : decode cX5_add 55 = .ok (.iload_n 1, 1) := by decide +kernel
theorem dX5_add_56 : decode cX5_add 56 = .ok (.iaload, 1) := by decide +kernel
theorem dX5_add_57 : decode cX5_add 57 = .ok (.bipush 10, 2) := by decide +kernel
theorem dX5_add_59 : decode cX5_add 59 = .ok (.if_icmp .ne 7, 3) := by decide +kernel
theorem dX5_add_62 : decode cX5_add 62 = .ok (.iconst 2, 1) := by decide +kernel
theorem dX5_add_63 : decode cX5_add 63 = .ok (.goto 4, 3) := by decide +kernel
theorem dX5_add_66 : decode cX5_add 66 = .ok (.iconst 0, 1) := by decide +kernel
theorem dX5_add_67 : decode cX5_add 67 = .ok (.invokevirtual 59, 3) := by decide +kernel
theorem dX5_add_70 : decode cX5_add 70 = .ok (.ifCond .ne 5, 3) := by decide +kernel
theorem dX5_add_73 : decode cX5_add 73 = .ok (.iconst 0, 1) := by decide +kernel
theorem dX5_add_74 : decode cX5_add 74 = .ok (.ireturn, 1) := by decide +kernel
theorem dX5_add_75 : decode cX5_add 75 = .ok (.bipush 10, 2) := by decide +kernel
theorem dX5_add_77 : decode cX5_add 77 = .ok (.iload_n 1, 1) := by decide +kernel
theorem dX5_add_78 : decode cX5_add 78 = .ok (.imul, 1) := by decide +kernel
theorem dX5_add_79 : decode cX5_add 79 = .ok (.aload_n 0, 1) := by decide +kernel
theorem dX5_add_80 : decode cX5_add 80 = .ok (.getfield 26, 3) := by decide +kernel
theorem dX5_add_83 : decode cX5_add 83 = .ok (.iload_n 1, 1) := by decide +kernel
theorem dX5_add_84 : decode cX5_add 84 = .ok (.iaload, 1) := by decide +kernel
theorem dX5_add_85 : decode cX5_add 85 = .ok (.iadd, 1) := by decide +kernel
theorem dX5_add_86 : decode cX5_add 86 = .ok (.istore 10, 2) := by decide +kernel
theorem dX5_add_88 : decode cX5_add 88 = .ok (.aload_n 0, 1) := by decide +kernel
theorem dX5_add_89 : decode cX5_add 89 = .ok (.getfield 7, 3) := by decide +kernel
theorem dX5_add_92 : decode cX5_add 92 = .ok (.iload 10, 2) := by decide +kernel
theorem dX5_add_94 : decode cX5_add 94 = .ok (.iload_n 2, 1) := by decide +kernel
theorem dX5_add_95 : decode cX5_add 95 = .ok (.iastore, 1) := by decide +kernel
theorem dX5_add_96 : decode cX5_add 96 = .ok (.aload_n 0, 1) := by decide +kernel
theorem dX5_add_97 : decode cX5_add 97 = .ok (.getfield 13, 3) := by decide +kernel
theorem dX5_add_100 : decode cX5_add 100 = .ok (.iload 10, 2) := by decide +kernel
theorem dX5_add_102 : decode cX5_add 102 = .ok (.iload_n 3, 1) := by decide +kernel
theorem dX5_add_103 : decode cX5_add 103 = .ok (.iastore, 1) := by decide +kernel
theorem dX5_add_104 : decode cX5_add 104 = .ok (.aload_n 0, 1) := by decide +kernel
theorem dX5_add_105 : decode cX5_add 105 = .ok (.getfield 16, 3) := by decide +kernel
theorem dX5_add_108 : decode cX5_add 108 = .ok (.iload 10, 2) := by decide +kernel
theorem dX5_add_110 : decode cX5_add 110 = .ok (.lload 4, 2) := by decide +kernel
theorem dX5_add_112 : decode cX5_add 112 = .ok (.lastore, 1) := by decide +kernel
theorem dX5_add_113 : decode cX5_add 113 = .ok (.aload_n 0, 1) := by decide +kernel
theorem dX5_add_114 : decode cX5_add 114 = .ok (.getfield 20, 3) := by decide +kernel
theorem dX5_add_117 : decode cX5_add 117 = .ok (.iload 10, 2) := by decide +kernel
theorem dX5_add_119 : decode cX5_add 119 = .ok (.lload 6, 2) := by decide +kernel
theorem dX5_add_121 : decode cX5_add 121 = .ok (.lastore, 1) := by decide +kernel
theorem dX5_add_122 : decode cX5_add 122 = .ok (.aload_n 0, 1) := by decide +kernel
theorem dX5_add_123 : decode cX5_add 123 = .ok (.getfield 23, 3) := by decide +kernel
theorem dX5_add_126 : decode cX5_add 126 = .ok (.iload 10, 2) := by decide +kernel
theorem dX5_add_128 : decode cX5_add 128 = .ok (.iload 8, 2) := by decide +kernel
theorem dX5_add_130 : decode cX5_add 130 = .ok (.iastore, 1) := by decide +kernel
theorem dX5_add_131 : decode cX5_add 131 = .ok (.aload_n 0, 1) := by decide +kernel
theorem dX5_add_132 : decode cX5_add 132 = .ok (.getfield 26, 3) := by decide +kernel
theorem dX5_add_135 : decode cX5_add 135 = .ok (.iload_n 1, 1) := by decide +kernel
theorem dX5_add_136 : decode cX5_add 136 = .ok (.dup2, 1) := by decide +kernel
theorem dX5_add_137 : decode cX5_add 137 = .ok (.iaload, 1) := by decide +kernel
theorem dX5_add_138 : decode cX5_add 138 = .ok (.iconst 1, 1) := by decide +kernel
theorem dX5_add_139 : decode cX5_add 139 = .ok (.iadd, 1) := by decide +kernel
theorem dX5_add_140 : decode cX5_add 140 = .ok (.iastore, 1) := by decide +kernel
theorem dX5_add_141 : decode cX5_add 141 = .ok (.aload_n 0, 1) := by decide +kernel
theorem dX5_add_142 : decode cX5_add 142 = .ok (.iconst 0, 1) := by decide +kernel
theorem dX5_add_143 : decode cX5_add 143 = .ok (.putfield 62, 3) := by decide +kernel
theorem dX5_add_146 : decode cX5_add 146 = .ok (.aload_n 0, 1) := by decide +kernel
theorem dX5_add_147 : decode cX5_add 147 = .ok (.getfield 26, 3) := by decide +kernel
theorem dX5_add_150 : decode cX5_add 150 = .ok (.iload_n 1, 1) := by decide +kernel
theorem dX5_add_151 : decode cX5_add 151 = .ok (.iaload, 1) := by decide +kernel
theorem dX5_add_152 : decode cX5_add 152 = .ok (.iconst 1, 1) := by decide +kernel
theorem dX5_add_153 : decode cX5_add 153 = .ok (.isub, 1) := by decide +kernel
theorem dX5_add_154 : decode cX5_add 154 = .ok (.ireturn, 1) := by decide +kernel
theorem dX5_remove_0 : decode cX5_remove 0 = .ok (.aload_n 0, 1) := by decide +kernel
theorem dX5_remove_1 : decode cX5_remove 1 = .ok (.iload_n 1, 1) := by decide +kernel
theorem dX5_remove_2 : decode cX5_remove 2 = .ok (.invokestatic 52, 3) := by decide +kernel
theorem dX5_remove_5 : decode cX5_remove 5 = .ok (.ifCond .ne 7, 3) := by decide +kernel
theorem dX5_remove_8 : decode cX5_remove 8 = .ok (.iconst 1, 1) := by decide +kernel
theorem dX5_remove_9 : decode cX5_remove 9 = .ok (.goto 17, 3) := by decide +kernel
theorem dX5_remove_12 : decode cX5_remove 12 = .ok (.aload_n 0, 1) := by decide +kernel
theorem dX5_remove_13 : decode cX5_remove 13 = .ok (.iload_n 1, 1) := by decide +kernel
theorem dX5_remove_14 : decode cX5_remove 14 = .ok (.iload_n 2, 1) := by decide +kernel
theorem dX5_remove_15 : decode cX5_remove 15 = .ok (.invokevirtual 66, 3) := by decide +kernel
theorem dX5_remove_18 : decode cX5_remove 18 = .ok (.ifCond .eq 7, 3) := by decide +kernel
theorem dX5_remove_21 : decode cX5_remove 21 = .ok (.iconst 0, 1) := by decide +kernel
theorem dX5_remove_22 : decode cX5_remove 22 = .ok (.goto 4, 3) := by decide +kernel
theorem dX5_remove_25 : decode cX5_remove 25 = .ok (.iconst 2, 1) := by decide +kernel
theorem dX5_remove_26 : decode cX5_remove 26 = .ok (.invokevirtual 59, 3) := by decide +kernel
theorem dX5_remove_29 : decode cX5_remove 29 = .ok (.ifCond .ne 5, 3) := by decide +kernel
theorem dX5_remove_32 : decode cX5_remove 32 = .ok (.iconst 0, 1) := by decide +kernel
theorem dX5_remove_33 : decode cX5_remove 33 = .ok (.ireturn, 1) := by decide +kernel
theorem dX5_remove_34 : decode cX5_remove 34 = .ok (.aload_n 0, 1) := by decide +kernel
theorem dX5_remove_35 : decode cX5_remove 35 = .ok (.getfield 26, 3) := by decide +kernel
theorem dX5_remove_38 : decode cX5_remove 38 = .ok (.iload_n 1, 1) := by decide +kernel
theorem dX5_remove_39 : decode cX5_remove 39 = .ok (.dup2, 1) := by decide +kernel
theorem dX5_remove_40 : decode cX5_remove 40 = .ok (.iaload, 1) := by decide +kernel
theorem dX5_remove_41 : decode cX5_remove 41 = .ok (.iconst 1, 1) := by decide +kernel
theorem dX5_remove_42 : decode cX5_remove 42 = .ok (.isub, 1) := by decide +kernel
theorem dX5_remove_43 : decode cX5_remove 43 = .ok (.iastore, 1) := by decide +kernel
theorem dX5_remove_44 : decode cX5_remove 44 = .ok (.bipush 10, 2) := by decide +kernel
theorem dX5_remove_46 : decode cX5_remove 46 = .ok (.iload_n 1, 1) := by decide +kernel
theorem dX5_remove_47 : decode cX5_remove 47 = .ok (.imul, 1) := by decide +kernel
theorem dX5_remove_48 : decode cX5_remove 48 = .ok (.iload_n 2, 1) := by decide +kernel
theorem dX5_remove_49 : decode cX5_remove 49 = .ok (.iadd, 1) := by decide +kernel
theorem dX5_remove_50 : decode cX5_remove 50 = .ok (.istore_n 3, 1) := by decide +kernel
theorem dX5_remove_51 : decode cX5_remove 51 = .ok (.iload_n 3, 1) := by decide +kernel
theorem dX5_remove_52 : decode cX5_remove 52 = .ok (.bipush 10, 2) := by decide +kernel
theorem dX5_remove_54 : decode cX5_remove 54 = .ok (.iload_n 1, 1) := by decide +kernel
theorem dX5_remove_55 : decode cX5_remove 55 = .ok (.imul, 1) := by decide +kernel
theorem dX5_remove_56 : decode cX5_remove 56 = .ok (.aload_n 0, 1) := by decide +kernel
theorem dX5_remove_57 : decode cX5_remove 57 = .ok (.getfield 26, 3) := by decide +kernel
theorem dX5_remove_60 : decode cX5_remove 60 = .ok (.iload_n 1, 1) := by decide +kernel
theorem dX5_remove_61 : decode cX5_remove 61 = .ok (.iaload, 1) := by decide +kernel
theorem dX5_remove_62 : decode cX5_remove 62 = .ok (.iadd, 1) := by decide +kernel
theorem dX5_remove_63 : decode cX5_remove 63 = .ok (.if_icmp .ge 79, 3) := by decide +kernel
theorem dX5_remove_66 : decode cX5_remove 66 = .ok (.aload_n 0, 1) := by decide +kernel
theorem dX5_remove_67 : decode cX5_remove 67 = .ok (.getfield 7, 3) := by decide +kernel
theorem dX5_remove_70 : decode cX5_remove 70 = .ok (.iload_n 3, 1) := by decide +kernel
theorem dX5_remove_71 : decode cX5_remove 71 = .ok (.aload_n 0, 1) := by decide +kernel
theorem dX5_remove_72 : decode cX5_remove 72 = .ok (.getfield 7, 3) := by decide +kernel
theorem dX5_remove_75 : decode cX5_remove 75 = .ok (.iload_n 3, 1) := by decide +kernel
theorem dX5_remove_76 : decode cX5_remove 76 = .ok (.iconst 1, 1) := by decide +kernel
theorem dX5_remove_77 : decode cX5_remove 77 = .ok (.iadd, 1) := by decide +kernel
theorem dX5_remove_78 : decode cX5_remove 78 = .ok (.iaload, 1) := by decide +kernel
theorem dX5_remove_79 : decode cX5_remove 79 = .ok (.iastore, 1) := by decide +kernel
theorem dX5_remove_80 : decode cX5_remove 80 = .ok (.aload_n 0, 1) := by decide +kernel
theorem dX5_remove_81 : decode cX5_remove 81 = .ok (.getfield 13, 3) := by decide +kernel
theorem dX5_remove_84 : decode cX5_remove 84 = .ok (.iload_n 3, 1) := by decide +kernel
theorem dX5_remove_85 : decode cX5_remove 85 = .ok (.aload_n 0, 1) := by decide +kernel
theorem dX5_remove_86 : decode cX5_remove 86 = .ok (.getfield 13, 3) := by decide +kernel
theorem dX5_remove_89 : decode cX5_remove 89 = .ok (.iload_n 3, 1) := by decide +kernel
theorem dX5_remove_90 : decode cX5_remove 90 = .ok (.iconst 1, 1) := by decide +kernel
theorem dX5_remove_91 : decode cX5_remove 91 = .ok (.iadd, 1) := by decide +kernel
theorem dX5_remove_92 : decode cX5_remove 92 = .ok (.iaload, 1) := by decide +kernel
theorem dX5_remove_93 : decode cX5_remove 93 = .ok (.iastore, 1) := by decide +kernel
theorem dX5_remove_94 : decode cX5_remove 94 = .ok (.aload_n 0, 1) := by decide +kernel
theorem dX5_remove_95 : decode cX5_remove 95 = .ok (.getfield 16, 3) := by decide +kernel
theorem dX5_remove_98 : decode cX5_remove 98 = .ok (.iload_n 3, 1) := by decide +kernel
theorem dX5_remove_99 : decode cX5_remove 99 = .ok (.aload_n 0, 1) := by decide +kernel
theorem dX5_remove_100 : decode cX5_remove 100 = .ok (.getfield 16, 3) := by decide +kernel
theorem dX5_remove_103 : decode cX5_remove 103 = .ok (.iload_n 3, 1) := by decide +kernel
theorem dX5_remove_104 : decode cX5_remove 104 = .ok (.iconst 1, 1) := by decide +kernel
theorem dX5_remove_105 : decode cX5_remove 105 = .ok (.iadd, 1) := by decide +kernel
theorem dX5_remove_106 : decode cX5_remove 106 = .ok (.laload, 1) := by decide +kernel
theorem dX5_remove_107 : decode cX5_remove 107 = .ok (.lastore, 1) := by decide +kernel
theorem dX5_remove_108 : decode cX5_remove 108 = .ok (.aload_n 0, 1) := by decide +kernel
theorem dX5_remove_109 : decode cX5_remove 109 = .ok (.getfield 20, 3) := by decide +kernel
theorem dX5_remove_112 : decode cX5_remove 112 = .ok (.iload_n 3, 1) := by decide +kernel
theorem dX5_remove_113 : decode cX5_remove 113 = .ok (.aload_n 0, 1) := by decide +kernel
theorem dX5_remove_114 : decode cX5_remove 114 = .ok (.getfield 20, 3) := by decide +kernel
theorem dX5_remove_117 : decode cX5_remove 117 = .ok (.iload_n 3, 1) := by decide +kernel
theorem dX5_remove_118 : decode cX5_remove 118 = .ok (.iconst 1, 1) := by decide +kernel
theorem dX5_remove_119 : decode cX5_remove 119 = .ok (.iadd, 1) := by decide +kernel
theorem dX5_remove_120 : decode cX5_remove 120 = .ok (.laload, 1) := by decide +kernel
theorem dX5_remove_121 : decode cX5_remove 121 = .ok (.lastore, 1) := by decide +kernel
theorem dX5_remove_122 : decode cX5_remove 122 = .ok (.aload_n 0, 1) := by decide +kernel
theorem dX5_remove_123 : decode cX5_remove 123 = .ok (.getfield 23, 3) := by decide +kernel
theorem dX5_remove_126 : decode cX5_remove 126 = .ok (.iload_n 3, 1) := by decide +kernel
theorem dX5_remove_127 : decode cX5_remove 127 = .ok (.aload_n 0, 1) := by decide +kernel
theorem dX5_remove_128 : decode cX5_remove 128 = .ok (.getfield 23, 3) := by decide +kernel
theorem dX5_remove_131 : decode cX5_remove 131 = .ok (.iload_n 3, 1) := by decide +kernel
theorem dX5_remove_132 : decode cX5_remove 132 = .ok (.iconst 1, 1) := by decide +kernel
theorem dX5_remove_133 : decode cX5_remove 133 = .ok (.iadd, 1) := by decide +kernel
theorem dX5_remove_134 : decode cX5_remove 134 = .ok (.iaload, 1) := by decide +kernel
theorem dX5_remove_135 : decode cX5_remove 135 = .ok (.iastore, 1) := by decide +kernel
theorem dX5_remove_136 : decode cX5_remove 136 = .ok (.iinc 3 1, 3) := by decide +kernel
theorem dX5_remove_139 : decode cX5_remove 139 = .ok (.goto (-88), 3) := by decide +kernel
theorem dX5_remove_142 : decode cX5_remove 142 = .ok (.aload_n 0, 1) := by decide +kernel
theorem dX5_remove_143 : decode cX5_remove 143 = .ok (.iconst 0, 1) := by decide +kernel
theorem dX5_remove_144 : decode cX5_remove 144 = .ok (.putfield 62, 3) := by decide +kernel
theorem dX5_remove_147 : decode cX5_remove 147 = .ok (.aload_n 0, 1) := by decide +kernel
theorem dX5_remove_148 : decode cX5_remove 148 = .ok (.getfield 26, 3) := by decide +kernel
theorem dX5_remove_151 : decode cX5_remove 151 = .ok (.iload_n 1, 1) := by decide +kernel
theorem dX5_remove_152 : decode cX5_remove 152 = .ok (.iaload, 1) := by decide +kernel
theorem dX5_remove_153 : decode cX5_remove 153 = .ok (.ireturn, 1) := by decide +kernel
theorem dX5_setDefault_0 : decode cX5_setDefault 0 = .ok (.aload_n 0, 1) := by decide +kernel
theorem dX5_setDefault_1 : decode cX5_setDefault 1 = .ok (.iload_n 1, 1) := by decide +kernel
theorem dX5_setDefault_2 : decode cX5_setDefault 2 = .ok (.invokestatic 52, 3) := by decide +kernel
theorem dX5_setDefault_5 : decode cX5_setDefault 5 = .ok (.ifCond .eq 17, 3) := by decide +kernel
theorem dX5_setDefault_8 : decode cX5_setDefault 8 = .ok (.iload_n 2, 1) := by decide +kernel
theorem dX5_setDefault_9 : decode cX5_setDefault 9 = .ok (.iconst 0, 1) := by decide +kernel
theorem dX5_setDefault_10 : decode cX5_setDefault 10 = .ok (.bipush 6, 2) := by decide +kernel
theorem dX5_setDefault_12 : decode cX5_setDefault 12 = .ok (.invokestatic 48, 3) := by decide +kernel
theorem dX5_setDefault_15 : decode cX5_setDefault 15 = .ok (.ifCond .eq 7, 3) := by decide +kernel
theorem dX5_setDefault_18 : decode cX5_setDefault 18 = .ok (.iconst 0, 1) := by decide +kernel
theorem dX5_setDefault_19 : decode cX5_setDefault 19 = .ok (.goto 4, 3) := by decide +kernel
theorem dX5_setDefault_22 : decode cX5_setDefault 22 = .ok (.iconst 1, 1) := by decide +kernel
theorem dX5_setDefault_23 : decode cX5_setDefault 23 = .ok (.invokevirtual 59, 3) := by decide +kernel
theorem dX5_setDefault_26 : decode cX5_setDefault 26 = .ok (.ifCond .ne 5, 3) := by decide +kernel
theorem dX5_setDefault_29 : decode cX5_setDefault 29 = .ok (.iconst 0, 1) := by decide +kernel
theorem dX5_setDefault_30 : decode cX5_setDefault 30 = .ok (.ireturn, 1) := by decide +kernel
theorem dX5_setDefault_31 : decode cX5_setDefault 31 = .ok (.aload_n 0, 1) := by decide +kernel
theorem dX5_setDefault_32 : decode cX5_setDefault 32 = .ok (.getfield 29, 3) := by decide +kernel
theorem dX5_setDefault_35 : decode cX5_setDefault 35 = .ok (.iload_n 1, 1) := by decide +kernel
theorem dX5_setDefault_36 : decode cX5_setDefault 36 = .ok (.iaload, 1) := by decide +kernel
theorem dX5_setDefault_37 : decode cX5_setDefault 37 = .ok (.istore_n 3, 1) := by decide +kernel
theorem dX5_setDefault_38 : decode cX5_setDefault 38 = .ok (.aload_n 0, 1) := by decide +kernel
theorem dX5_setDefault_39 : decode cX5_setDefault 39 = .ok (.getfield 29, 3) := by decide +kernel
theorem dX5_setDefault_42 : decode cX5_setDefault 42 = .ok (.iload_n 1, 1) := by decide +kernel
theorem dX5_setDefault_43 : decode cX5_setDefault 43 = .ok (.iload_n 2, 1) := by decide +kernel
theorem dX5_setDefault_44 : decode cX5_setDefault 44 = .ok (.iastore, 1) := by decide +kernel
theorem dX5_setDefault_45 : decode cX5_setDefault 45 = .ok (.aload_n 0, 1) := by decide +kernel
theorem dX5_setDefault_46 : decode cX5_setDefault 46 = .ok (.aload_n 0, 1) := by decide +kernel
theorem dX5_setDefault_47 : decode cX5_setDefault 47 = .ok (.getfield 62, 3) := by decide +kernel
theorem dX5_setDefault_50 : decode cX5_setDefault 50 = .ok (.ifCond .eq 12, 3) := by decide +kernel
theorem dX5_setDefault_53 : decode cX5_setDefault 53 = .ok (.iload_n 3, 1) := by decide +kernel
theorem dX5_setDefault_54 : decode cX5_setDefault 54 = .ok (.iload_n 2, 1) := by decide +kernel
theorem dX5_setDefault_55 : decode cX5_setDefault 55 = .ok (.if_icmp .ne 7, 3) := by decide +kernel
theorem dX5_setDefault_58 : decode cX5_setDefault 58 = .ok (.iconst 1, 1) := by decide +kernel
theorem dX5_setDefault_59 : decode cX5_setDefault 59 = .ok (.goto 4, 3) := by decide +kernel
theorem dX5_setDefault_62 : decode cX5_setDefault 62 = .ok (.iconst 0, 1) := by decide +kernel
theorem dX5_setDefault_63 : decode cX5_setDefault 63 = .ok (.putfield 62, 3) := by decide +kernel
theorem dX5_setDefault_66 : decode cX5_setDefault 66 = .ok (.iload_n 3, 1) := by decide +kernel
theorem dX5_setDefault_67 : decode cX5_setDefault 67 = .ok (.ireturn, 1) := by decide +kernel
theorem dX5_setFrequency_0 : decode cX5_setFrequency 0 = .ok (.aload_n 0, 1) := by decide +kernel
theorem dX5_setFrequency_1 : decode cX5_setFrequency 1 = .ok (.iload_n 1, 1) := by decide +kernel
theorem dX5_setFrequency_2 : decode cX5_setFrequency 2 = .ok (.invokestatic 56, 3) := by decide +kernel
theorem dX5_setFrequency_5 : decode cX5_setFrequency 5 = .ok (.ifCond .eq 18, 3) := by decide +kernel
theorem dX5_setFrequency_8 : decode cX5_setFrequency 8 = .ok (.iload_n 2, 1) := by decide +kernel
theorem dX5_setFrequency_9 : decode cX5_setFrequency 9 = .ok (.iconst 0, 1) := by decide +kernel
theorem dX5_setFrequency_10 : decode cX5_setFrequency 10 = .ok (.sipush 1000, 3) := by decide +kernel
theorem dX5_setFrequency_13 : decode cX5_setFrequency 13 = .ok (.invokestatic 48, 3) := by decide +kernel
theorem dX5_setFrequency_16 : decode cX5_setFrequency 16 = .ok (.ifCond .eq 7, 3) := by decide +kernel
theorem dX5_setFrequency_19 : decode cX5_setFrequency 19 = .ok (.iconst 0, 1) := by decide +kernel
theorem dX5_setFrequency_20 : decode cX5_setFrequency 20 = .ok (.goto 4, 3) := by decide +kernel
theorem dX5_setFrequency_23 : decode cX5_setFrequency 23 = .ok (.iconst 1, 1) := by decide +kernel
theorem dX5_setFrequency_24 : decode cX5_setFrequency 24 = .ok (.invokevirtual 59, 3) := by decide +kernel
theorem dX5_setFrequency_27 : decode cX5_setFrequency 27 = .ok (.ifCond .ne 5, 3) := by decide +kernel
theorem dX5_setFrequency_30 : decode cX5_setFrequency 30 = .ok (.iconst 0, 1) := by decide +kernel
theorem dX5_setFrequency_31 : decode cX5_setFrequency 31 = .ok (.ireturn, 1) := by decide +kernel
theorem dX5_setFrequency_32 : decode cX5_setFrequency 32 = .ok (.aload_n 0, 1) := by decide +kernel
theorem dX5_setFrequency_33 : decode cX5_setFrequency 33 = .ok (.getfield 32, 3) := by decide +kernel
theorem dX5_setFrequency_36 : decode cX5_setFrequency 36 = .ok (.iload_n 1, 1) := by decide +kernel
theorem dX5_setFrequency_37 : decode cX5_setFrequency 37 = .ok (.iaload, 1) := by decide +kernel
theorem dX5_setFrequency_38 : decode cX5_setFrequency 38 = .ok (.istore_n 3, 1) := by decide +kernel
theorem dX5_setFrequency_39 : decode cX5_setFrequency 39 = .ok (.aload_n 0, 1) := by decide +kernel
theorem dX5_setFrequency_40 : decode cX5_setFrequency 40 = .ok (.getfield 32, 3) := by decide +kernel
theorem dX5_setFrequency_43 : decode cX5_setFrequency 43 = .ok (.iload_n 1, 1) := by decide +kernel
theorem dX5_setFrequency_44 : decode cX5_setFrequency 44 = .ok (.iload_n 2, 1) := by decide +kernel
theorem dX5_setFrequency_45 : decode cX5_setFrequency 45 = .ok (.iastore, 1) := by decide +kernel
theorem dX5_setFrequency_46 : decode cX5_setFrequency 46 = .ok (.aload_n 0, 1) := by decide +kernel
theorem dX5_setFrequency_47 : decode cX5_setFrequency 47 = .ok (.aload_n 0, 1) := by decide +kernel
theorem dX5_setFrequency_48 : decode cX5_setFrequency 48 = .ok (.getfield 62, 3) := by decide +kernel
theorem dX5_setFrequency_51 : decode cX5_setFrequency 51 = .ok (.ifCond .eq 12, 3) := by decide +kernel
theorem dX5_setFrequency_54 : decode cX5_setFrequency 54 = .ok (.iload_n 3, 1) := by decide +kernel
theorem dX5_setFrequency_55 : decode cX5_setFrequency 55 = .ok (.iload_n 2, 1) := by decide +kernel
theorem dX5_setFrequency_56 : decode cX5_setFrequency 56 = .ok (.if_icmp .ne 7, 3) := by decide +kernel
theorem dX5_setFrequency_59 : decode cX5_setFrequency 59 = .ok (.iconst 1, 1) := by decide +kernel
theorem dX5_setFrequency_60 : decode cX5_setFrequency 60 = .ok (.goto 4, 3) := by decide +kernel
theorem dX5_setFrequency_63 : decode cX5_setFrequency 63 = .ok (.iconst 0, 1) := by decide +kernel
theorem dX5_setFrequency_64 : decode cX5_setFrequency 64 = .ok (.putfield 62, 3) := by decide +kernel
theorem dX5_setFrequency_67 : decode cX5_setFrequency 67 = .ok (.iload_n 3, 1) := by decide +kernel
theorem dX5_setFrequency_68 : decode cX5_setFrequency 68 = .ok (.ireturn, 1) := by decide +kernel
theorem dX5_rules_0 : decode cX5_rules 0 = .ok (.aload_n 0, 1) := by decide +kernel
theorem dX5_rules_1 : decode cX5_rules 1 = .ok (.iload_n 1, 1) := by decide +kernel
theorem dX5_rules_2 : decode cX5_rules 2 = .ok (.invokestatic 52, 3) := by decide +kernel
theorem dX5_rules_5 : decode cX5_rules 5 = .ok (.ifCond .eq 7, 3) := by decide +kernel
theorem dX5_rules_8 : decode cX5_rules 8 = .ok (.iconst 0, 1) := by decide +kernel
theorem dX5_rules_9 : decode cX5_rules 9 = .ok (.goto 4, 3) := by decide +kernel
theorem dX5_rules_12 : decode cX5_rules 12 = .ok (.iconst 1, 1) := by decide +kernel
theorem dX5_rules_13 : decode cX5_rules 13 = .ok (.invokevirtual 59, 3) := by decide +kernel
theorem dX5_rules_16 : decode cX5_rules 16 = .ok (.ifCond .eq 12, 3) := by decide +kernel
theorem dX5_rules_19 : decode cX5_rules 19 = .ok (.aload_n 0, 1) := by decide +kernel
theorem dX5_rules_20 : decode cX5_rules 20 = .ok (.getfield 26, 3) := by decide +kernel
theorem dX5_rules_23 : decode cX5_rules 23 = .ok (.iload_n 1, 1) := by decide +kernel
theorem dX5_rules_24 : decode cX5_rules 24 = .ok (.iaload, 1) := by decide +kernel
theorem dX5_rules_25 : decode cX5_rules 25 = .ok (.goto 4, 3) := by decide +kernel
theorem dX5_rules_28 : decode cX5_rules 28 = .ok (.iconst 0, 1) := by decide +kernel
theorem dX5_rules_29 : decode cX5_rules 29 = .ok (.ireturn, 1) := by decide +kernel
theorem dX5_hides_0 : decode cX5_hides 0 = .ok (.aload_n 0, 1) := by decide +kernel
theorem dX5_hides_1 : decode cX5_hides 1 = .ok (.getfield 7, 3) := by decide +kernel
theorem dX5_hides_4 : decode cX5_hides 4 = .ok (.iload_n 1, 1) := by decide +kernel
theorem dX5_hides_5 : decode cX5_hides 5 = .ok (.iaload, 1) := by decide +kernel
theorem dX5_hides_6 : decode cX5_hides 6 = .ok (.aload_n 0, 1) := by decide +kernel
theorem dX5_hides_7 : decode cX5_hides 7 = .ok (.getfield 7, 3) := by decide +kernel
theorem dX5_hides_10 : decode cX5_hides 10 = .ok (.iload_n 2, 1) := by decide +kernel
theorem dX5_hides_11 : decode cX5_hides 11 = .ok (.iaload, 1) := by decide +kernel
theorem dX5_hides_12 : decode cX5_hides 12 = .ok (.if_icmp .eq 5, 3) := by decide +kernel
theorem dX5_hides_15 : decode cX5_hides 15 = .ok (.iconst 0, 1) := by decide +kernel
theorem dX5_hides_16 : decode cX5_hides 16 = .ok (.ireturn, 1) := by decide +kernel
theorem dX5_hides_17 : decode cX5_hides 17 = .ok (.aload_n 0, 1) := by decide +kernel
theorem dX5_hides_18 : decode cX5_hides 18 = .ok (.getfield 16, 3) := by decide +kernel
theorem dX5_hides_21 : decode cX5_hides 21 = .ok (.iload_n 1, 1) := by decide +kernel
theorem dX5_hides_22 : decode cX5_hides 22 = .ok (.laload, 1) := by decide +kernel
theorem dX5_hides_23 : decode cX5_hides 23 = .ok (.lconst 0, 1) := by decide +kernel
theorem dX5_hides_24 : decode cX5_hides 24 = .ok (.lcmp, 1) := by decide +kernel
theorem dX5_hides_25 : decode cX5_hides 25 = .ok (.ifCond .ne 16, 3) := by decide +kernel
theorem dX5_hides_28 : decode cX5_hides 28 = .ok (.aload_n 0, 1) := by decide +kernel
theorem dX5_hides_29 : decode cX5_hides 29 = .ok (.getfield 20, 3) := by decide +kernel
theorem dX5_hides_32 : decode cX5_hides 32 = .ok (.iload_n 1, 1) := by decide +kernel
theorem dX5_hides_33 : decode cX5_hides 33 = .ok (.laload, 1) := by decide +kernel
theorem dX5_hides_34 : decode cX5_hides 34 = .ok (.lconst 0, 1) := by decide +kernel
theorem dX5_hides_35 : decode cX5_hides 35 = .ok (.lcmp, 1) := by decide +kernel
theorem dX5_hides_36 : decode cX5_hides 36 = .ok (.ifCond .ne 5, 3) := by decide +kernel
theorem dX5_hides_39 : decode cX5_hides 39 = .ok (.iconst 1, 1) := by decide +kernel
theorem dX5_hides_40 : decode cX5_hides 40 = .ok (.ireturn, 1) := by decide +kernel
theorem dX5_hides_41 : decode cX5_hides 41 = .ok (.aload_n 0, 1) := by decide +kernel
theorem dX5_hides_42 : decode cX5_hides 42 = .ok (.getfield 16, 3) := by decide +kernel
theorem dX5_hides_45 : decode cX5_hides 45 = .ok (.iload_n 1, 1) := by decide +kernel
theorem dX5_hides_46 : decode cX5_hides 46 = .ok (.laload, 1) := by decide +kernel
theorem dX5_hides_47 : decode cX5_hides 47 = .ok (.aload_n 0, 1) := by decide +kernel
theorem dX5_hides_48 : decode cX5_hides 48 = .ok (.getfield 16, 3) := by decide +kernel
theorem dX5_hides_51 : decode cX5_hides 51 = .ok (.iload_n 2, 1) := by decide +kernel
theorem dX5_hides_52 : decode cX5_hides 52 = .ok (.laload, 1) := by decide +kernel
theorem dX5_hides_53 : decode cX5_hides 53 = .ok (.ldc2_w 70, 3) := by decide +kernel
theorem dX5_hides_56 : decode cX5_hides 56 = .ok (.lxor, 1) := by decide +kernel
theorem dX5_hides_57 : decode cX5_hides 57 = .ok (.land, 1) := by decide +kernel
theorem dX5_hides_58 : decode cX5_hides 58 = .ok (.lconst 0, 1) := by decide +kernel
theorem dX5_hides_59 : decode cX5_hides 59 = .ok (.lcmp, 1) := by decide +kernel
theorem dX5_hides_60 : decode cX5_hides 60 = .ok (.ifCond .ne 30, 3) := by decide +kernel
theorem dX5_hides_63 : decode cX5_hides 63 = .ok (.aload_n 0, 1) := by decide +kernel
theorem dX5_hides_64 : decode cX5_hides 64 = .ok (.getfield 20, 3) := by decide +kernel
theorem dX5_hides_67 : decode cX5_hides 67 = .ok (.iload_n 2, 1) := by decide +kernel
theorem dX5_hides_68 : decode cX5_hides 68 = .ok (.laload, 1) := by decide +kernel
theorem dX5_hides_69 : decode cX5_hides 69 = .ok (.aload_n 0, 1) := by decide +kernel
theorem dX5_hides_70 : decode cX5_hides 70 = .ok (.getfield 16, 3) := by decide +kernel
theorem dX5_hides_73 : decode cX5_hides 73 = .ok (.iload_n 1, 1) := by decide +kernel
theorem dX5_hides_74 : decode cX5_hides 74 = .ok (.laload, 1) := by decide +kernel
theorem dX5_hides_75 : decode cX5_hides 75 = .ok (.land, 1) := by decide +kernel
theorem dX5_hides_76 : decode cX5_hides 76 = .ok (.aload_n 0, 1) := by decide +kernel
theorem dX5_hides_77 : decode cX5_hides 77 = .ok (.getfield 20, 3) := by decide +kernel
theorem dX5_hides_80 : decode cX5_hides 80 = .ok (.iload_n 1, 1) := by decide +kernel
theorem dX5_hides_81 : decode cX5_hides 81 = .ok (.laload, 1) := by decide +kernel
theorem dX5_hides_82 : decode cX5_hides 82 = .ok (.lcmp, 1) := by decide +kernel
theorem dX5_hides_83 : decode cX5_hides 83 = .ok (.ifCond .ne 7, 3) := by decide +kernel
theorem dX5_hides_86 : decode cX5_hides 86 = .ok (.iconst 1, 1) := by decide +kernel
theorem dX5_hides_87 : decode cX5_hides 87 = .ok (.goto 4, 3) := by decide +kernel
theorem dX5_hides_90 : decode cX5_hides 90 = .ok (.iconst 0, 1) := by decide +kernel
theorem dX5_hides_91 : decode cX5_hides 91 = .ok (.istore_n 3, 1) := by decide +kernel
theorem dX5_hides_92 : decode cX5_hides 92 = .ok (.aload_n 0, 1) := by decide +kernel
theorem dX5_hides_93 : decode cX5_hides 93 = .ok (.getfield 13, 3) := by decide +kernel
theorem dX5_hides_96 : decode cX5_hides 96 = .ok (.iload_n 1, 1) := by decide +kernel
theorem dX5_hides_97 : decode cX5_hides 97 = .ok (.iaload, 1) := by decide +kernel
theorem dX5_hides_98 : decode cX5_hides 98 = .ok (.aload_n 0, 1) := by decide +kernel
theorem dX5_hides_99 : decode cX5_hides 99 = .ok (.getfield 13, 3) := by decide +kernel
theorem dX5_hides_102 : decode cX5_hides 102 = .ok (.iload_n 2, 1) := by decide +kernel
theorem dX5_hides_103 : decode cX5_hides 103 = .ok (.iaload, 1) := by decide +kernel
theorem dX5_hides_104 : decode cX5_hides 104 = .ok (.if_icmp .ne 11, 3) := by decide +kernel
theorem dX5_hides_107 : decode cX5_hides 107 = .ok (.iload_n 3, 1) := by decide +kernel
theorem dX5_hides_108 : decode cX5_hides 108 = .ok (.ifCond .eq 7, 3) := by decide +kernel
theorem dX5_hides_111 : decode cX5_hides 111 = .ok (.iconst 1, 1) := by decide +kernel
theorem dX5_hides_112 : decode cX5_hides 112 = .ok (.goto 4, 3) := by decide +kernel
theorem dX5_hides_115 : decode cX5_hides 115 = .ok (.iconst 0, 1) := by decide +kernel
theorem dX5_hides_116 : decode cX5_hides 116 = .ok (.ireturn, 1) := by decide +kernel
theorem dX5_hiderOf_0 : decode cX5_hiderOf 0 = .ok (.bipush 10, 2) := by decide +kernel
theorem dX5_hiderOf_2 : decode cX5_hiderOf 2 = .ok (.iload_n 1, 1) := by decide +kernel
theorem dX5_hiderOf_3 : decode cX5_hiderOf 3 = .ok (.imul, 1) := by decide +kernel
theorem dX5_hiderOf_4 : decode cX5_hiderOf 4 = .ok (.iload_n 2, 1) := by decide +kernel
theorem dX5_hiderOf_5 : decode cX5_hiderOf 5 = .ok (.iadd, 1) := by decide +kernel
theorem dX5_hiderOf_6 : decode cX5_hiderOf 6 = .ok (.istore_n 3, 1) := by decide +kernel
theorem dX5_hiderOf_7 : decode cX5_hiderOf 7 = .ok (.aload_n 0, 1) := by decide +kernel
theorem dX5_hiderOf_8 : decode cX5_hiderOf 8 = .ok (.getfield 20, 3) := by decide +kernel
theorem dX5_hiderOf_11 : decode cX5_hiderOf 11 = .ok (.iload_n 3, 1) := by decide +kernel
theorem dX5_hiderOf_12 : decode cX5_hiderOf 12 = .ok (.laload, 1) := by decide +kernel
theorem dX5_hiderOf_13 : decode cX5_hiderOf 13 = .ok (.aload_n 0, 1) := by decide +kernel
theorem dX5_hiderOf_14 : decode cX5_hiderOf 14 = .ok (.getfield 16, 3) := by decide +kernel
theorem dX5_hiderOf_17 : decode cX5_hiderOf 17 = .ok (.iload_n 3, 1) := by decide +kernel
theorem dX5_hiderOf_18 : decode cX5_hiderOf 18 = .ok (.laload, 1) := by decide +kernel
theorem dX5_hiderOf_19 : decode cX5_hiderOf 19 = .ok (.ldc2_w 70, 3) := by decide +kernel
theorem dX5_hiderOf_22 : decode cX5_hiderOf 22 = .ok (.lxor, 1) := by decide +kernel
theorem dX5_hiderOf_23 : decode cX5_hiderOf 23 = .ok (.land, 1) := by decide +kernel
theorem dX5_hiderOf_24 : decode cX5_hiderOf 24 = .ok (.lconst 0, 1) := by decide +kernel
theorem dX5_hiderOf_25 : decode cX5_hiderOf 25 = .ok (.lcmp, 1) := by decide +kernel
theorem dX5_hiderOf_26 : decode cX5_hiderOf 26 = .ok (.ifCond .eq 5, 3) := by decide +kernel
theorem dX5_hiderOf_29 : decode cX5_hiderOf 29 = .ok (.iload_n 2, 1) := by decide +kernel
theorem dX5_hiderOf_30 : decode cX5_hiderOf 30 = .ok (.ireturn, 1) := by decide +kernel
theorem dX5_hiderOf_31 : decode cX5_hiderOf 31 = .ok (.iconst 0, 1) := by decide +kernel
theorem dX5_hiderOf_32 : decode cX5_hiderOf 32 = .ok (.istore 4, 2) := by decide +kernel
theorem dX5_hiderOf_34 : decode cX5_hiderOf 34 = .ok (.iload 4, 2) := by decide +kernel
theorem dX5_hiderOf_36 : decode cX5_hiderOf 36 = .ok (.iload_n 2, 1) := by decide +kernel
theorem dX5_hiderOf_37 : decode cX5_hiderOf 37 = .ok (.if_icmp .ge 27, 3) := by decide +kernel
theorem dX5_hiderOf_40 : decode cX5_hiderOf 40 = .ok (.aload_n 0, 1) := by decide +kernel
theorem dX5_hiderOf_41 : decode cX5_hiderOf 41 = .ok (.bipush 10, 2) := by decide +kernel
theorem dX5_hiderOf_43 : decode cX5_hiderOf 43 = .ok (.iload_n 1, 1) := by decide +kernel
theorem dX5_hiderOf_44 : decode cX5_hiderOf 44 = .ok (.imul, 1) := by decide +kernel
theorem dX5_hiderOf_45 : decode cX5_hiderOf 45 = .ok (.iload 4, 2) := by decide +kernel
theorem dX5_hiderOf_47 : decode cX5_hiderOf 47 = .ok (.iadd, 1) := by decide +kernel
theorem dX5_hiderOf_48 : decode cX5_hiderOf 48 = .ok (.iload_n 3, 1) := by decide +kernel
theorem dX5_hiderOf_49 : decode cX5_hiderOf 49 = .ok (.invokevirtual 72, 3) := by decide +kernel
theorem dX5_hiderOf_52 : decode cX5_hiderOf 52 = .ok (.ifCond .eq 6, 3) := by decide +kernel
theorem dX5_hiderOf_55 : decode cX5_hiderOf 55 = .ok (.iload 4, 2) := by decide +kernel
theorem dX5_hiderOf_57 : decode cX5_hiderOf 57 = .ok (.ireturn, 1) := by decide +kernel
theorem dX5_hiderOf_58 : decode cX5_hiderOf 58 = .ok (.iinc 4 1, 3) := by decide +kernel
theorem dX5_hiderOf_61 : decode cX5_hiderOf 61 = .ok (.goto (-27), 3) := by decide +kernel
theorem dX5_hiderOf_64 : decode cX5_hiderOf 64 = .ok (.iconst (-1), 1) := by decide +kernel
theorem dX5_hiderOf_65 : decode cX5_hiderOf 65 = .ok (.ireturn, 1) := by decide +kernel
theorem dX5_hider_0 : decode cX5_hider 0 = .ok (.aload_n 0, 1) := by decide +kernel
theorem dX5_hider_1 : decode cX5_hider 1 = .ok (.iload_n 1, 1) := by decide +kernel
theorem dX5_hider_2 : decode cX5_hider 2 = .ok (.invokestatic 52, 3) := by decide +kernel
theorem dX5_hider_5 : decode cX5_hider 5 = .ok (.ifCond .ne 7, 3) := by decide +kernel
theorem dX5_hider_8 : decode cX5_hider 8 = .ok (.iconst 1, 1) := by decide +kernel
theorem dX5_hider_9 : decode cX5_hider 9 = .ok (.goto 17, 3) := by decide +kernel
theorem dX5_hider_12 : decode cX5_hider 12 = .ok (.aload_n 0, 1) := by decide +kernel
theorem dX5_hider_13 : decode cX5_hider 13 = .ok (.iload_n 1, 1) := by decide +kernel
theorem dX5_hider_14 : decode cX5_hider 14 = .ok (.iload_n 2, 1) := by decide +kernel
theorem dX5_hider_15 : decode cX5_hider 15 = .ok (.invokevirtual 66, 3) := by decide +kernel
theorem dX5_hider_18 : decode cX5_hider 18 = .ok (.ifCond .eq 7, 3) := by decide +kernel
theorem dX5_hider_21 : decode cX5_hider 21 = .ok (.iconst 0, 1) := by decide +kernel
theorem dX5_hider_22 : decode cX5_hider 22 = .ok (.goto 4, 3) := by decide +kernel
theorem dX5_hider_25 : decode cX5_hider 25 = .ok (.iconst 2, 1) := by decide +kernel
theorem dX5_hider_26 : decode cX5_hider 26 = .ok (.invokevirtual 59, 3) := by decide +kernel
theorem dX5_hider_29 : decode cX5_hider 29 = .ok (.ifCond .eq 12, 3) := by decide +kernel
theorem dX5_hider_32 : decode cX5_hider 32 = .ok (.aload_n 0, 1) := by decide +kernel
theorem dX5_hider_33 : decode cX5_hider 33 = .ok (.iload_n 1, 1) := by decide +kernel
theorem dX5_hider_34 : decode cX5_hider 34 = .ok (.iload_n 2, 1) := by decide +kernel
theorem dX5_hider_35 : decode cX5_hider 35 = .ok (.invokevirtual 75, 3) := by decide +kernel
theorem dX5_hider_38 : decode cX5_hider 38 = .ok (.goto 4, 3) := by decide +kernel
theorem dX5_hider_41 : decode cX5_hider 41 = .ok (.iconst 0, 1) := by decide +kernel
theorem dX5_hider_42 : decode cX5_hider 42 = .ok (.ireturn, 1) := by decide +kernel
theorem dX5_hasNumber_0 : decode cX5_hasNumber 0 = .ok (.iconst 0, 1) := by decide +kernel
theorem dX5_hasNumber_1 : decode cX5_hasNumber 1 = .ok (.istore_n 3, 1) := by decide +kernel
theorem dX5_hasNumber_2 : decode cX5_hasNumber 2 = .ok (.iconst 0, 1) := by decide +kernel
theorem dX5_hasNumber_3 : decode cX5_hasNumber 3 = .ok (.istore 4, 2) := by decide +kernel
theorem dX5_hasNumber_5 : decode cX5_hasNumber 5 = .ok (.iload 4, 2) := by decide +kernel
theorem dX5_hasNumber_7 : decode cX5_hasNumber 7 = .ok (.aload_n 0, 1) := by decide +kernel
theorem dX5_hasNumber_8 : decode cX5_hasNumber 8 = .ok (.getfield 26, 3) := by decide +kernel
theorem dX5_hasNumber_11 : decode cX5_hasNumber 11 = .ok (.iload_n 1, 1) := by decide +kernel
theorem dX5_hasNumber_12 : decode cX5_hasNumber 12 = .ok (.iaload, 1) := by decide +kernel
theorem dX5_hasNumber_13 : decode cX5_hasNumber 13 = .ok (.if_icmp .ge 46, 3) := by decide +kernel
theorem dX5_hasNumber_16 : decode cX5_hasNumber 16 = .ok (.iload_n 3, 1) := by decide +kernel
theorem dX5_hasNumber_17 : decode cX5_hasNumber 17 = .ok (.ifCond .ne 30, 3) := by decide +kernel
theorem dX5_hasNumber_20 : decode cX5_hasNumber 20 = .ok (.aload_n 0, 1) := by decide +kernel
theorem dX5_hasNumber_21 : decode cX5_hasNumber 21 = .ok (.getfield 7, 3) := by decide +kernel
theorem dX5_hasNumber_24 : decode cX5_hasNumber 24 = .ok (.bipush 10, 2) := by decide +kernel
theorem dX5_hasNumber_26 : decode cX5_hasNumber 26 = .ok (.iload_n 1, 1) := by decide +kernel
theorem dX5_hasNumber_27 : decode cX5_hasNumber 27 = .ok (.imul, 1) := by decide +kernel
theorem dX5_hasNumber_28 : decode cX5_hasNumber 28 = .ok (.iload 4, 2) := by decide +kernel
theorem dX5_hasNumber_30 : decode cX5_hasNumber 30 = .ok (.iadd, 1) := by decide +kernel
theorem dX5_hasNumber_31 : decode cX5_hasNumber 31 = .ok (.iaload, 1) := by decide +kernel
theorem dX5_hasNumber_32 : decode cX5_hasNumber 32 = .ok (.iload_n 2, 1) := by decide +kernel
theorem dX5_hasNumber_33 : decode cX5_hasNumber 33 = .ok (.if_icmp .ne 18, 3) := by decide +kernel
theorem dX5_hasNumber_36 : decode cX5_hasNumber 36 = .ok (.aload_n 0, 1) := by decide +kernel
theorem dX5_hasNumber_37 : decode cX5_hasNumber 37 = .ok (.iload_n 1, 1) := by decide +kernel
theorem dX5_hasNumber_38 : decode cX5_hasNumber 38 = .ok (.iload 4, 2) := by decide +kernel
theorem dX5_hasNumber_40 : decode cX5_hasNumber 40 = .ok (.invokevirtual 75, 3) := by decide +kernel
theorem dX5_hasNumber_43 : decode cX5_hasNumber 43 = .ok (.iconst (-1), 1) := by decide +kernel
theorem dX5_hasNumber_44 : decode cX5_hasNumber 44 = .ok (.if_icmp .ne 7, 3) := by decide +kernel
theorem dX5_hasNumber_47 : decode cX5_hasNumber 47 = .ok (.iconst 1, 1) := by decide +kernel
theorem dX5_hasNumber_48 : decode cX5_hasNumber 48 = .ok (.goto 4, 3) := by decide +kernel
theorem dX5_hasNumber_51 : decode cX5_hasNumber 51 = .ok (.iconst 0, 1) := by decide +kernel
theorem dX5_hasNumber_52 : decode cX5_hasNumber 52 = .ok (.istore_n 3, 1) := by decide +kernel
theorem dX5_hasNumber_53 : decode cX5_hasNumber 53 = .ok (.iinc 4 1, 3) := by decide +kernel
theorem dX5_hasNumber_56 : decode cX5_hasNumber 56 = .ok (.goto (-51), 3) := by decide +kernel
theorem dX5_hasNumber_59 : decode cX5_hasNumber 59 = .ok (.iload_n 3, 1) := by decide +kernel
theorem dX5_hasNumber_60 : decode cX5_hasNumber 60 = .ok (.ireturn, 1) := by decide +kernel
theorem dX5_costOf_0 : decode cX5_costOf 0 = .ok (.iload_n 1, 1) := by decide +kernel
theorem dX5_costOf_1 : decode cX5_costOf 1 = .ok (.iload_n 2, 1) := by decide +kernel
theorem dX5_costOf_2 : decode cX5_costOf 2 = .ok (.if_icmp .le 7, 3) := by decide +kernel
theorem dX5_costOf_5 : decode cX5_costOf 5 = .ok (.iconst 0, 1) := by decide +kernel
theorem dX5_costOf_6 : decode cX5_costOf 6 = .ok (.goto 14, 3) := by decide +kernel
theorem dX5_costOf_9 : decode cX5_costOf 9 = .ok (.aload_n 0, 1) := by decide +kernel
theorem dX5_costOf_10 : decode cX5_costOf 10 = .ok (.getfield 38, 3) := by decide +kernel
theorem dX5_costOf_13 : decode cX5_costOf 13 = .ok (.bipush 10, 2) := by decide +kernel
theorem dX5_costOf_15 : decode cX5_costOf 15 = .ok (.iload_n 1, 1) := by decide +kernel
theorem dX5_costOf_16 : decode cX5_costOf 16 = .ok (.imul, 1) := by decide +kernel
theorem dX5_costOf_17 : decode cX5_costOf 17 = .ok (.iload_n 2, 1) := by decide +kernel
theorem dX5_costOf_18 : decode cX5_costOf 18 = .ok (.iadd, 1) := by decide +kernel
theorem dX5_costOf_19 : decode cX5_costOf 19 = .ok (.iaload, 1) := by decide +kernel
theorem dX5_costOf_20 : decode cX5_costOf 20 = .ok (.ireturn, 1) := by decide +kernel
theorem dX5_lay_0 : decode cX5_lay 0 = .ok (.aload_n 0, 1) := by decide +kernel
theorem dX5_lay_1 : decode cX5_lay 1 = .ok (.iconst 0, 1) := by decide +kernel
theorem dX5_lay_2 : decode cX5_lay 2 = .ok (.putfield 79, 3) := by decide +kernel
theorem dX5_lay_5 : decode cX5_lay 5 = .ok (.iconst 0, 1) := by decide +kernel
theorem dX5_lay_6 : decode cX5_lay 6 = .ok (.istore_n 2, 1) := by decide +kernel
theorem dX5_lay_7 : decode cX5_lay 7 = .ok (.iload_n 2, 1) := by decide +kernel
theorem dX5_lay_8 : decode cX5_lay 8 = .ok (.bipush 32, 2) := by decide +kernel
theorem dX5_lay_10 : decode cX5_lay 10 = .ok (.if_icmp .ge 38, 3) := by decide +kernel
theorem dX5_lay_13 : decode cX5_lay 13 = .ok (.aload_n 0, 1) := by decide +kernel
theorem dX5_lay_14 : decode cX5_lay 14 = .ok (.iload_n 1, 1) := by decide +kernel
theorem dX5_lay_15 : decode cX5_lay 15 = .ok (.iload_n 2, 1) := by decide +kernel
theorem dX5_lay_16 : decode cX5_lay 16 = .ok (.invokevirtual 82, 3) := by decide +kernel
theorem dX5_lay_19 : decode cX5_lay 19 = .ok (.ifCond .eq 23, 3) := by decide +kernel
theorem dX5_lay_22 : decode cX5_lay 22 = .ok (.aload_n 0, 1) := by decide +kernel
theorem dX5_lay_23 : decode cX5_lay 23 = .ok (.getfield 35, 3) := by decide +kernel
theorem dX5_lay_26 : decode cX5_lay 26 = .ok (.aload_n 0, 1) := by decide +kernel
theorem dX5_lay_27 : decode cX5_lay 27 = .ok (.getfield 79, 3) := by decide +kernel
theorem dX5_lay_30 : decode cX5_lay 30 = .ok (.iload_n 2, 1) := by decide +kernel
theorem dX5_lay_31 : decode cX5_lay 31 = .ok (.iastore, 1) := by decide +kernel
theorem dX5_lay_32 : decode cX5_lay 32 = .ok (.aload_n 0, 1) := by decide +kernel
theorem dX5_lay_33 : decode cX5_lay 33 = .ok (.dup, 1) := by decide +kernel
theorem dX5_lay_34 : decode cX5_lay 34 = .ok (.getfield 79, 3) := by decide +kernel
theorem dX5_lay_37 : decode cX5_lay 37 = .ok (.iconst 1, 1) := by decide +kernel
theorem dX5_lay_38 : decode cX5_lay 38 = .ok (.iadd, 1) := by decide +kernel
theorem dX5_lay_39 : decode cX5_lay 39 = .ok (.putfield 79, 3) := by decide +kernel
theorem dX5_lay_42 : decode cX5_lay 42 = .ok (.iinc 2 1, 3) := by decide +kernel
theorem dX5_lay_45 : decode cX5_lay 45 = .ok (.goto (-38), 3) := by decide +kernel
theorem dX5_lay_48 : decode cX5_lay 48 = .ok (.iconst 1, 1) := by decide +kernel
theorem dX5_lay_49 : decode cX5_lay 49 = .ok (.istore_n 2, 1) := by decide +kernel
theorem dX5_lay_50 : decode cX5_lay 50 = .ok (.iload_n 2, 1) := by decide +kernel
theorem dX5_lay_51 : decode cX5_lay 51 = .ok (.aload_n 0, 1) := by decide +kernel
theorem dX5_lay_52 : decode cX5_lay 52 = .ok (.getfield 79, 3) := by decide +kernel
theorem dX5_lay_55 : decode cX5_lay 55 = .ok (.if_icmp .gt 37, 3) := by decide +kernel
theorem dX5_lay_58 : decode cX5_lay 58 = .ok (.iconst 0, 1) := by decide +kernel
theorem dX5_lay_59 : decode cX5_lay 59 = .ok (.istore_n 3, 1) := by decide +kernel
theorem dX5_lay_60 : decode cX5_lay 60 = .ok (.iload_n 3, 1) := by decide +kernel
theorem dX5_lay_61 : decode cX5_lay 61 = .ok (.iload_n 2, 1) := by decide +kernel
theorem dX5_lay_62 : decode cX5_lay 62 = .ok (.iadd, 1) := by decide +kernel
theorem dX5_lay_63 : decode cX5_lay 63 = .ok (.aload_n 0, 1) := by decide +kernel
theorem dX5_lay_64 : decode cX5_lay 64 = .ok (.getfield 79, 3) := by decide +kernel
theorem dX5_lay_67 : decode cX5_lay 67 = .ok (.if_icmp .gt 19, 3) := by decide +kernel
theorem dX5_lay_70 : decode cX5_lay 70 = .ok (.aload_n 0, 1) := by decide +kernel
theorem dX5_lay_71 : decode cX5_lay 71 = .ok (.iload_n 3, 1) := by decide +kernel
theorem dX5_lay_72 : decode cX5_lay 72 = .ok (.iload_n 3, 1) := by decide +kernel
theorem dX5_lay_73 : decode cX5_lay 73 = .ok (.iload_n 2, 1) := by decide +kernel
theorem dX5_lay_74 : decode cX5_lay 74 = .ok (.iadd, 1) := by decide +kernel
theorem dX5_lay_75 : decode cX5_lay 75 = .ok (.iconst 1, 1) := by decide +kernel
theorem dX5_lay_76 : decode cX5_lay 76 = .ok (.isub, 1) := by decide +kernel
theorem dX5_lay_77 : decode cX5_lay 77 = .ok (.invokevirtual 85, 3) := by decide +kernel
theorem dX5_lay_80 : decode cX5_lay 80 = .ok (.iinc 3 1, 3) := by decide +kernel
theorem dX5_lay_83 : decode cX5_lay 83 = .ok (.goto (-23), 3) := by decide +kernel
theorem dX5_lay_86 : decode cX5_lay 86 = .ok (.iinc 2 1, 3) := by decide +kernel
theorem dX5_lay_89 : decode cX5_lay 89 = .ok (.goto (-39), 3) := by decide +kernel
theorem dX5_lay_92 : decode cX5_lay 92 = .ok (.return_, 1) := by decide +kernel
theorem dX5_layPart_0 : decode cX5_layPart 0 = .ok (.iconst 0, 1) := by decide +kernel
theorem dX5_layPart_1 : decode cX5_layPart 1 = .ok (.istore_n 3, 1) := by decide +kernel
theorem dX5_layPart_2 : decode cX5_layPart 2 = .ok (.iconst (-1), 1) := by decide +kernel
theorem dX5_layPart_3 : decode cX5_layPart 3 = .ok (.istore 4, 2) := by decide +kernel
theorem dX5_layPart_5 : decode cX5_layPart 5 = .ok (.iload_n 1, 1) := by decide +kernel
theorem dX5_layPart_6 : decode cX5_layPart 6 = .ok (.istore 5, 2) := by decide +kernel
theorem dX5_layPart_8 : decode cX5_layPart 8 = .ok (.iload 5, 2) := by decide +kernel
theorem dX5_layPart_10 : decode cX5_layPart 10 = .ok (.iload_n 2, 1) := by decide +kernel
theorem dX5_layPart_11 : decode cX5_layPart 11 = .ok (.if_icmp .gt 77, 3) := by decide +kernel
theorem dX5_layPart_14 : decode cX5_layPart 14 = .ok (.iload_n 3, 1) := by decide +kernel
theorem dX5_layPart_15 : decode cX5_layPart 15 = .ok (.aload_n 0, 1) := by decide +kernel
theorem dX5_layPart_16 : decode cX5_layPart 16 = .ok (.getfield 32, 3) := by decide +kernel
theorem dX5_layPart_19 : decode cX5_layPart 19 = .ok (.aload_n 0, 1) := by decide +kernel
theorem dX5_layPart_20 : decode cX5_layPart 20 = .ok (.getfield 35, 3) := by decide +kernel
theorem dX5_layPart_23 : decode cX5_layPart 23 = .ok (.iload 5, 2) := by decide +kernel
theorem dX5_layPart_25 : decode cX5_layPart 25 = .ok (.iaload, 1) := by decide +kernel
theorem dX5_layPart_26 : decode cX5_layPart 26 = .ok (.iaload, 1) := by decide +kernel
theorem dX5_layPart_27 : decode cX5_layPart 27 = .ok (.iconst 1, 1) := by decide +kernel
theorem dX5_layPart_28 : decode cX5_layPart 28 = .ok (.iadd, 1) := by decide +kernel
theorem dX5_layPart_29 : decode cX5_layPart 29 = .ok (.iadd, 1) := by decide +kernel
theorem dX5_layPart_30 : decode cX5_layPart 30 = .ok (.istore_n 3, 1) := by decide +kernel
theorem dX5_layPart_31 : decode cX5_layPart 31 = .ok (.aload_n 0, 1) := by decide +kernel
theorem dX5_layPart_32 : decode cX5_layPart 32 = .ok (.iload_n 1, 1) := by decide +kernel
theorem dX5_layPart_33 : decode cX5_layPart 33 = .ok (.iload 5, 2) := by decide +kernel
theorem dX5_layPart_35 : decode cX5_layPart 35 = .ok (.iconst 1, 1) := by decide +kernel
theorem dX5_layPart_36 : decode cX5_layPart 36 = .ok (.isub, 1) := by decide +kernel
theorem dX5_layPart_37 : decode cX5_layPart 37 = .ok (.invokevirtual 89, 3) := by decide +kernel
