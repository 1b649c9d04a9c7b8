theorem dL_areAlike_0 : decode cL_areAlike 0 = .ok (.aload_n 0, 1) := by decide +kernel
theorem dL_areAlike_1 : decode cL_areAlike 1 = .ok (.invokevirtual 66, 3) := by decide +kernel
theorem dL_areAlike_4 : decode cL_areAlike 4 = .ok (.aload_n 1, 1) := by decide +kernel
theorem dL_areAlike_5 : decode cL_areAlike 5 = .ok (.invokevirtual 66, 3) := by decide +kernel
theorem dL_areAlike_8 : decode cL_areAlike 8 = .ok (.if_icmp .ne 7, 3) := by decide +kernel
theorem dL_areAlike_11 : decode cL_areAlike 11 = .ok (.iconst 1, 1) := by decide +kernel
theorem dL_areAlike_12 : decode cL_areAlike 12 = .ok (.goto 4, 3) := by decide +kernel
theorem dL_areAlike_15 : decode cL_areAlike 15 = .ok (.iconst 0, 1) := by decide +kernel
theorem dL_areAlike_16 : decode cL_areAlike 16 = .ok (.istore_n 3, 1) := by decide +kernel
theorem dL_areAlike_17 : decode cL_areAlike 17 = .ok (.iconst 0, 1) := by decide +kernel
theorem dL_areAlike_18 : decode cL_areAlike 18 = .ok (.istore 4, 2) := by decide +kernel
theorem dL_areAlike_20 : decode cL_areAlike 20 = .ok (.iload 4, 2) := by decide +kernel
theorem dL_areAlike_22 : decode cL_areAlike 22 = .ok (.iconst 4, 1) := by decide +kernel
theorem dL_areAlike_23 : decode cL_areAlike 23 = .ok (.if_icmp .ge 134, 3) := by decide +kernel
theorem dL_areAlike_26 : decode cL_areAlike 26 = .ok (.iload_n 3, 1) := by decide +kernel
theorem dL_areAlike_27 : decode cL_areAlike 27 = .ok (.ifCond .eq 130, 3) := by decide +kernel
theorem dL_areAlike_30 : decode cL_areAlike 30 = .ok (.aload_n 0, 1) := by decide +kernel
theorem dL_areAlike_31 : decode cL_areAlike 31 = .ok (.iload 4, 2) := by decide +kernel
theorem dL_areAlike_33 : decode cL_areAlike 33 = .ok (.invokevirtual 70, 3) := by decide +kernel
theorem dL_areAlike_36 : decode cL_areAlike 36 = .ok (.aload_n 1, 1) := by decide +kernel
theorem dL_areAlike_37 : decode cL_areAlike 37 = .ok (.iload 4, 2) := by decide +kernel
theorem dL_areAlike_39 : decode cL_areAlike 39 = .ok (.invokevirtual 70, 3) := by decide +kernel
theorem dL_areAlike_42 : decode cL_areAlike 42 = .ok (.if_icmp .ne 58, 3) := by decide +kernel
theorem dL_areAlike_45 : decode cL_areAlike 45 = .ok (.aload_n 0, 1) := by decide +kernel
theorem dL_areAlike_46 : decode cL_areAlike 46 = .ok (.iload 4, 2) := by decide +kernel
theorem dL_areAlike_48 : decode cL_areAlike 48 = .ok (.iload_n 2, 1) := by decide +kernel
theorem dL_areAlike_49 : decode cL_areAlike 49 = .ok (.iconst 5, 1) := by decide +kernel
theorem dL_areAlike_50 : decode cL_areAlike 50 = .ok (.invokestatic 8, 3) := by decide +kernel
theorem dL_areAlike_53 : decode cL_areAlike 53 = .ok (.bipush 6, 2) := by decide +kernel
theorem dL_areAlike_55 : decode cL_areAlike 55 = .ok (.imul, 1) := by decide +kernel
theorem dL_areAlike_56 : decode cL_areAlike 56 = .ok (.iload_n 2, 1) := by decide +kernel
theorem dL_areAlike_57 : decode cL_areAlike 57 = .ok (.invokestatic 49, 3) := by decide +kernel
theorem dL_areAlike_60 : decode cL_areAlike 60 = .ok (.iload_n 2, 1) := by decide +kernel
theorem dL_areAlike_61 : decode cL_areAlike 61 = .ok (.iconst 5, 1) := by decide +kernel
theorem dL_areAlike_62 : decode cL_areAlike 62 = .ok (.ishr, 1) := by decide +kernel
theorem dL_areAlike_63 : decode cL_areAlike 63 = .ok (.invokestatic 49, 3) := by decide +kernel
theorem dL_areAlike_66 : decode cL_areAlike 66 = .ok (.invokevirtual 73, 3) := by decide +kernel
theorem dL_areAlike_69 : decode cL_areAlike 69 = .ok (.aload_n 1, 1) := by decide +kernel
theorem dL_areAlike_70 : decode cL_areAlike 70 = .ok (.iload 4, 2) := by decide +kernel
theorem dL_areAlike_72 : decode cL_areAlike 72 = .ok (.iload_n 2, 1) := by decide +kernel
theorem dL_areAlike_73 : decode cL_areAlike 73 = .ok (.iconst 5, 1) := by decide +kernel
theorem dL_areAlike_74 : decode cL_areAlike 74 = .ok (.invokestatic 8, 3) := by decide +kernel
theorem dL_areAlike_77 : decode cL_areAlike 77 = .ok (.bipush 6, 2) := by decide +kernel
theorem dL_areAlike_79 : decode cL_areAlike 79 = .ok (.imul, 1) := by decide +kernel
theorem dL_areAlike_80 : decode cL_areAlike 80 = .ok (.iload_n 2, 1) := by decide +kernel
theorem dL_areAlike_81 : decode cL_areAlike 81 = .ok (.invokestatic 49, 3) := by decide +kernel
theorem dL_areAlike_84 : decode cL_areAlike 84 = .ok (.iload_n 2, 1) := by decide +kernel
theorem dL_areAlike_85 : decode cL_areAlike 85 = .ok (.iconst 5, 1) := by decide +kernel
theorem dL_areAlike_86 : decode cL_areAlike 86 = .ok (.ishr, 1) := by decide +kernel
theorem dL_areAlike_87 : decode cL_areAlike 87 = .ok (.invokestatic 49, 3) := by decide +kernel
theorem dL_areAlike_90 : decode cL_areAlike 90 = .ok (.invokevirtual 73, 3) := by decide +kernel
theorem dL_areAlike_93 : decode cL_areAlike 93 = .ok (.if_icmp .ne 7, 3) := by decide +kernel
theorem dL_areAlike_96 : decode cL_areAlike 96 = .ok (.iconst 1, 1) := by decide +kernel
theorem dL_areAlike_97 : decode cL_areAlike 97 = .ok (.goto 4, 3) := by decide +kernel
theorem dL_areAlike_100 : decode cL_areAlike 100 = .ok (.iconst 0, 1) := by decide +kernel
theorem dL_areAlike_101 : decode cL_areAlike 101 = .ok (.istore_n 3, 1) := by decide +kernel
theorem dL_areAlike_102 : decode cL_areAlike 102 = .ok (.iconst 0, 1) := by decide +kernel
theorem dL_areAlike_103 : decode cL_areAlike 103 = .ok (.istore 5, 2) := by decide +kernel
theorem dL_areAlike_105 : decode cL_areAlike 105 = .ok (.iload 5, 2) := by decide +kernel
theorem dL_areAlike_107 : decode cL_areAlike 107 = .ok (.aload_n 0, 1) := by decide +kernel
theorem dL_areAlike_108 : decode cL_areAlike 108 = .ok (.iload 4, 2) := by decide +kernel
theorem dL_areAlike_110 : decode cL_areAlike 110 = .ok (.invokevirtual 70, 3) := by decide +kernel
theorem dL_areAlike_113 : decode cL_areAlike 113 = .ok (.if_icmp .ge 38, 3) := by decide +kernel
theorem dL_areAlike_116 : decode cL_areAlike 116 = .ok (.iload_n 3, 1) := by decide +kernel
theorem dL_areAlike_117 : decode cL_areAlike 117 = .ok (.ifCond .eq 34, 3) := by decide +kernel
theorem dL_areAlike_120 : decode cL_areAlike 120 = .ok (.aload_n 0, 1) := by decide +kernel
theorem dL_areAlike_121 : decode cL_areAlike 121 = .ok (.iload 4, 2) := by decide +kernel
theorem dL_areAlike_123 : decode cL_areAlike 123 = .ok (.iload 5, 2) := by decide +kernel
theorem dL_areAlike_125 : decode cL_areAlike 125 = .ok (.invokevirtual 77, 3) := by decide +kernel
theorem dL_areAlike_128 : decode cL_areAlike 128 = .ok (.aload_n 1, 1) := by decide +kernel
theorem dL_areAlike_129 : decode cL_areAlike 129 = .ok (.iload 4, 2) := by decide +kernel
theorem dL_areAlike_131 : decode cL_areAlike 131 = .ok (.iload 5, 2) := by decide +kernel
theorem dL_areAlike_133 : decode cL_areAlike 133 = .ok (.invokevirtual 77, 3) := by decide +kernel
theorem dL_areAlike_136 : decode cL_areAlike 136 = .ok (.if_icmp .ne 7, 3) := by decide +kernel
theorem dL_areAlike_139 : decode cL_areAlike 139 = .ok (.iconst 1, 1) := by decide +kernel
theorem dL_areAlike_140 : decode cL_areAlike 140 = .ok (.goto 4, 3) := by decide +kernel
theorem dL_areAlike_143 : decode cL_areAlike 143 = .ok (.iconst 0, 1) := by decide +kernel
theorem dL_areAlike_144 : decode cL_areAlike 144 = .ok (.istore_n 3, 1) := by decide +kernel
theorem dL_areAlike_145 : decode cL_areAlike 145 = .ok (.iinc 5 1, 3) := by decide +kernel
theorem dL_areAlike_148 : decode cL_areAlike 148 = .ok (.goto (-43), 3) := by decide +kernel
theorem dL_areAlike_151 : decode cL_areAlike 151 = .ok (.iinc 4 1, 3) := by decide +kernel
theorem dL_areAlike_154 : decode cL_areAlike 154 = .ok (.goto (-134), 3) := by decide +kernel
theorem dL_areAlike_157 : decode cL_areAlike 157 = .ok (.iload_n 3, 1) := by decide +kernel
theorem dL_areAlike_158 : decode cL_areAlike 158 = .ok (.ireturn, 1) := by decide +kernel
theorem dL_isCallSo_0 : decode cL_isCallSo 0 = .ok (.aload_n 0, 1) := by decide +kernel
theorem dL_isCallSo_1 : decode cL_isCallSo 1 = .ok (.iload_n 1, 1) := by decide +kernel
theorem dL_isCallSo_2 : decode cL_isCallSo 2 = .ok (.lload_n 2, 1) := by decide +kernel
theorem dL_isCallSo_3 : decode cL_isCallSo 3 = .ok (.lload 4, 2) := by decide +kernel
theorem dL_isCallSo_5 : decode cL_isCallSo 5 = .ok (.invokevirtual 80, 3) := by decide +kernel
theorem dL_isCallSo_8 : decode cL_isCallSo 8 = .ok (.istore 6, 2) := by decide +kernel
theorem dL_isCallSo_10 : decode cL_isCallSo 10 = .ok (.iconst 0, 1) := by decide +kernel
theorem dL_isCallSo_11 : decode cL_isCallSo 11 = .ok (.istore 7, 2) := by decide +kernel
theorem dL_isCallSo_13 : decode cL_isCallSo 13 = .ok (.iconst 0, 1) := by decide +kernel
theorem dL_isCallSo_14 : decode cL_isCallSo 14 = .ok (.istore 8, 2) := by decide +kernel
theorem dL_isCallSo_16 : decode cL_isCallSo 16 = .ok (.iconst 0, 1) := by decide +kernel
theorem dL_isCallSo_17 : decode cL_isCallSo 17 = .ok (.istore 9, 2) := by decide +kernel
theorem dL_isCallSo_19 : decode cL_isCallSo 19 = .ok (.iload 9, 2) := by decide +kernel
theorem dL_isCallSo_21 : decode cL_isCallSo 21 = .ok (.iconst 4, 1) := by decide +kernel
theorem dL_isCallSo_22 : decode cL_isCallSo 22 = .ok (.if_icmp .ge 59, 3) := by decide +kernel
theorem dL_isCallSo_25 : decode cL_isCallSo 25 = .ok (.aload_n 0, 1) := by decide +kernel
theorem dL_isCallSo_26 : decode cL_isCallSo 26 = .ok (.iload 9, 2) := by decide +kernel
theorem dL_isCallSo_28 : decode cL_isCallSo 28 = .ok (.iload_n 1, 1) := by decide +kernel
theorem dL_isCallSo_29 : decode cL_isCallSo 29 = .ok (.lload_n 2, 1) := by decide +kernel
theorem dL_isCallSo_30 : decode cL_isCallSo 30 = .ok (.lload 4, 2) := by decide +kernel
theorem dL_isCallSo_32 : decode cL_isCallSo 32 = .ok (.invokevirtual 73, 3) := by decide +kernel
theorem dL_isCallSo_35 : decode cL_isCallSo 35 = .ok (.istore 10, 2) := by decide +kernel
theorem dL_isCallSo_37 : decode cL_isCallSo 37 = .ok (.iload 10, 2) := by decide +kernel
theorem dL_isCallSo_39 : decode cL_isCallSo 39 = .ok (.iload 7, 2) := by decide +kernel
theorem dL_isCallSo_41 : decode cL_isCallSo 41 = .ok (.if_icmp .le 8, 3) := by decide +kernel
theorem dL_isCallSo_44 : decode cL_isCallSo 44 = .ok (.iload 10, 2) := by decide +kernel
theorem dL_isCallSo_46 : decode cL_isCallSo 46 = .ok (.goto 5, 3) := by decide +kernel
theorem dL_isCallSo_49 : decode cL_isCallSo 49 = .ok (.iload 7, 2) := by decide +kernel
theorem dL_isCallSo_51 : decode cL_isCallSo 51 = .ok (.istore 7, 2) := by decide +kernel
theorem dL_isCallSo_53 : decode cL_isCallSo 53 = .ok (.iload 8, 2) := by decide +kernel
theorem dL_isCallSo_55 : decode cL_isCallSo 55 = .ok (.aload_n 0, 1) := by decide +kernel
theorem dL_isCallSo_56 : decode cL_isCallSo 56 = .ok (.invokevirtual 66, 3) := by decide +kernel
theorem dL_isCallSo_59 : decode cL_isCallSo 59 = .ok (.ifCond .eq 12, 3) := by decide +kernel
theorem dL_isCallSo_62 : decode cL_isCallSo 62 = .ok (.aload_n 0, 1) := by decide +kernel
theorem dL_isCallSo_63 : decode cL_isCallSo 63 = .ok (.iload 9, 2) := by decide +kernel
theorem dL_isCallSo_65 : decode cL_isCallSo 65 = .ok (.invokevirtual 83, 3) := by decide +kernel
theorem dL_isCallSo_68 : decode cL_isCallSo 68 = .ok (.goto 4, 3) := by decide +kernel
theorem dL_isCallSo_71 : decode cL_isCallSo 71 = .ok (.iconst 0, 1) := by decide +kernel
theorem dL_isCallSo_72 : decode cL_isCallSo 72 = .ok (.iadd, 1) := by decide +kernel
theorem dL_isCallSo_73 : decode cL_isCallSo 73 = .ok (.istore 8, 2) := by decide +kernel
theorem dL_isCallSo_75 : decode cL_isCallSo 75 = .ok (.iinc 9 1, 3) := by decide +kernel
theorem dL_isCallSo_78 : decode cL_isCallSo 78 = .ok (.goto (-59), 3) := by decide +kernel
theorem dL_isCallSo_81 : decode cL_isCallSo 81 = .ok (.aload_n 0, 1) := by decide +kernel
theorem dL_isCallSo_82 : decode cL_isCallSo 82 = .ok (.iload_n 1, 1) := by decide +kernel
theorem dL_isCallSo_83 : decode cL_isCallSo 83 = .ok (.lload_n 2, 1) := by decide +kernel
theorem dL_isCallSo_84 : decode cL_isCallSo 84 = .ok (.lload 4, 2) := by decide +kernel
theorem dL_isCallSo_86 : decode cL_isCallSo 86 = .ok (.invokestatic 86, 3) := by decide +kernel
theorem dL_isCallSo_89 : decode cL_isCallSo 89 = .ok (.istore 9, 2) := by decide +kernel
theorem dL_isCallSo_91 : decode cL_isCallSo 91 = .ok (.iload 6, 2) := by decide +kernel
theorem dL_isCallSo_93 : decode cL_isCallSo 93 = .ok (.iload 7, 2) := by decide +kernel
theorem dL_isCallSo_95 : decode cL_isCallSo 95 = .ok (.if_icmp .ne 60, 3) := by decide +kernel
theorem dL_isCallSo_98 : decode cL_isCallSo 98 = .ok (.aload_n 0, 1) := by decide +kernel
theorem dL_isCallSo_99 : decode cL_isCallSo 99 = .ok (.invokevirtual 66, 3) := by decide +kernel
theorem dL_isCallSo_102 : decode cL_isCallSo 102 = .ok (.ifCond .eq 31, 3) := by decide +kernel
theorem dL_isCallSo_105 : decode cL_isCallSo 105 = .ok (.aload_n 0, 1) := by decide +kernel
theorem dL_isCallSo_106 : decode cL_isCallSo 106 = .ok (.iload_n 1, 1) := by decide +kernel
theorem dL_isCallSo_107 : decode cL_isCallSo 107 = .ok (.lload_n 2, 1) := by decide +kernel
theorem dL_isCallSo_108 : decode cL_isCallSo 108 = .ok (.lload 4, 2) := by decide +kernel
theorem dL_isCallSo_110 : decode cL_isCallSo 110 = .ok (.invokestatic 89, 3) := by decide +kernel
theorem dL_isCallSo_113 : decode cL_isCallSo 113 = .ok (.iload 6, 2) := by decide +kernel
theorem dL_isCallSo_115 : decode cL_isCallSo 115 = .ok (.if_icmp .ne 40, 3) := by decide +kernel
theorem dL_isCallSo_118 : decode cL_isCallSo 118 = .ok (.iload 9, 2) := by decide +kernel
theorem dL_isCallSo_120 : decode cL_isCallSo 120 = .ok (.ifCond .lt 35, 3) := by decide +kernel
theorem dL_isCallSo_123 : decode cL_isCallSo 123 = .ok (.iload 9, 2) := by decide +kernel
theorem dL_isCallSo_125 : decode cL_isCallSo 125 = .ok (.iload 8, 2) := by decide +kernel
theorem dL_isCallSo_127 : decode cL_isCallSo 127 = .ok (.if_icmp .gt 28, 3) := by decide +kernel
theorem dL_isCallSo_130 : decode cL_isCallSo 130 = .ok (.goto 21, 3) := by decide +kernel
theorem dL_isCallSo_133 : decode cL_isCallSo 133 = .ok (.aload_n 0, 1) := by decide +kernel
theorem dL_isCallSo_134 : decode cL_isCallSo 134 = .ok (.iload_n 1, 1) := by decide +kernel
theorem dL_isCallSo_135 : decode cL_isCallSo 135 = .ok (.lload_n 2, 1) := by decide +kernel
theorem dL_isCallSo_136 : decode cL_isCallSo 136 = .ok (.lload 4, 2) := by decide +kernel
theorem dL_isCallSo_138 : decode cL_isCallSo 138 = .ok (.invokestatic 89, 3) := by decide +kernel
theorem dL_isCallSo_141 : decode cL_isCallSo 141 = .ok (.iconst (-1), 1) := by decide +kernel
theorem dL_isCallSo_142 : decode cL_isCallSo 142 = .ok (.if_icmp .ne 13, 3) := by decide +kernel
theorem dL_isCallSo_145 : decode cL_isCallSo 145 = .ok (.iload 9, 2) := by decide +kernel
theorem dL_isCallSo_147 : decode cL_isCallSo 147 = .ok (.iconst (-1), 1) := by decide +kernel
theorem dL_isCallSo_148 : decode cL_isCallSo 148 = .ok (.if_icmp .ne 7, 3) := by decide +kernel
theorem dL_isCallSo_151 : decode cL_isCallSo 151 = .ok (.iconst 1, 1) := by decide +kernel
theorem dL_isCallSo_152 : decode cL_isCallSo 152 = .ok (.goto 4, 3) := by decide +kernel
theorem dL_isCallSo_155 : decode cL_isCallSo 155 = .ok (.iconst 0, 1) := by decide +kernel
theorem dL_isCallSo_156 : decode cL_isCallSo 156 = .ok (.ireturn, 1) := by decide +kernel
theorem dL_law_0 : decode cL_law 0 = .ok (.new 17, 3) := by decide +kernel
theorem dL_law_3 : decode cL_law 3 = .ok (.dup, 1) := by decide +kernel
theorem dL_law_4 : decode cL_law 4 = .ok (.invokespecial 91, 3) := by decide +kernel
theorem dL_law_7 : decode cL_law 7 = .ok (.astore_n 1, 1) := by decide +kernel
theorem dL_law_8 : decode cL_law 8 = .ok (.new 17, 3) := by decide +kernel
theorem dL_law_11 : decode cL_law 11 = .ok (.dup, 1) := by decide +kernel
theorem dL_law_12 : decode cL_law 12 = .ok (.invokespecial 91, 3) := by decide +kernel
theorem dL_law_15 : decode cL_law 15 = .ok (.astore_n 2, 1) := by decide +kernel
theorem dL_law_16 : decode cL_law 16 = .ok (.iconst 0, 1) := by decide +kernel
theorem dL_law_17 : decode cL_law 17 = .ok (.istore_n 3, 1) := by decide +kernel
theorem dL_law_18 : decode cL_law 18 = .ok (.iload_n 3, 1) := by decide +kernel
theorem dL_law_19 : decode cL_law 19 = .ok (.bipush 60, 2) := by decide +kernel
theorem dL_law_21 : decode cL_law 21 = .ok (.if_icmp .ge 144, 3) := by decide +kernel
theorem dL_law_24 : decode cL_law 24 = .ok (.aload_n 0, 1) := by decide +kernel
theorem dL_law_25 : decode cL_law 25 = .ok (.iconst 2, 1) := by decide +kernel
theorem dL_law_26 : decode cL_law 26 = .ok (.iload_n 3, 1) := by decide +kernel
theorem dL_law_27 : decode cL_law 27 = .ok (.imul, 1) := by decide +kernel
theorem dL_law_28 : decode cL_law 28 = .ok (.invokestatic 92, 3) := by decide +kernel
theorem dL_law_31 : decode cL_law 31 = .ok (.istore 4, 2) := by decide +kernel
theorem dL_law_33 : decode cL_law 33 = .ok (.aload_n 0, 1) := by decide +kernel
theorem dL_law_34 : decode cL_law 34 = .ok (.iconst 2, 1) := by decide +kernel
theorem dL_law_35 : decode cL_law 35 = .ok (.iload_n 3, 1) := by decide +kernel
theorem dL_law_36 : decode cL_law 36 = .ok (.imul, 1) := by decide +kernel
theorem dL_law_37 : decode cL_law 37 = .ok (.iconst 1, 1) := by decide +kernel
theorem dL_law_38 : decode cL_law 38 = .ok (.iadd, 1) := by decide +kernel
theorem dL_law_39 : decode cL_law 39 = .ok (.invokestatic 92, 3) := by decide +kernel
theorem dL_law_42 : decode cL_law 42 = .ok (.istore 5, 2) := by decide +kernel
theorem dL_law_44 : decode cL_law 44 = .ok (.aload_n 1, 1) := by decide +kernel
theorem dL_law_45 : decode cL_law 45 = .ok (.iload 4, 2) := by decide +kernel
theorem dL_law_47 : decode cL_law 47 = .ok (.iload 5, 2) := by decide +kernel
theorem dL_law_49 : decode cL_law 49 = .ok (.invokestatic 96, 3) := by decide +kernel
theorem dL_law_52 : decode cL_law 52 = .ok (.istore 6, 2) := by decide +kernel
theorem dL_law_54 : decode cL_law 54 = .ok (.iload 6, 2) := by decide +kernel
theorem dL_law_56 : decode cL_law 56 = .ok (.ldc 24, 2) := by decide +kernel
theorem dL_law_58 : decode cL_law 58 = .ok (.if_icmp .eq 16, 3) := by decide +kernel
theorem dL_law_61 : decode cL_law 61 = .ok (.aload_n 2, 1) := by decide +kernel
theorem dL_law_62 : decode cL_law 62 = .ok (.iload 4, 2) := by decide +kernel
theorem dL_law_64 : decode cL_law 64 = .ok (.iload 5, 2) := by decide +kernel
theorem dL_law_66 : decode cL_law 66 = .ok (.invokestatic 96, 3) := by decide +kernel
theorem dL_law_69 : decode cL_law 69 = .ok (.iload 6, 2) := by decide +kernel
theorem dL_law_71 : decode cL_law 71 = .ok (.if_icmp .ne 28, 3) := by decide +kernel
theorem dL_law_74 : decode cL_law 74 = .ok (.aload_n 1, 1) := by decide +kernel
theorem dL_law_75 : decode cL_law 75 = .ok (.aload_n 2, 1) := by decide +kernel
theorem dL_law_76 : decode cL_law 76 = .ok (.iload 5, 2) := by decide +kernel
theorem dL_law_78 : decode cL_law 78 = .ok (.invokestatic 99, 3) := by decide +kernel
theorem dL_law_81 : decode cL_law 81 = .ok (.ifCond .eq 18, 3) := by decide +kernel
theorem dL_law_84 : decode cL_law 84 = .ok (.aload_n 1, 1) := by decide +kernel
theorem dL_law_85 : decode cL_law 85 = .ok (.iload 4, 2) := by decide +kernel
theorem dL_law_87 : decode cL_law 87 = .ok (.iconst 4, 1) := by decide +kernel
theorem dL_law_88 : decode cL_law 88 = .ok (.ishr, 1) := by decide +kernel
theorem dL_law_89 : decode cL_law 89 = .ok (.iconst 4, 1) := by decide +kernel
theorem dL_law_90 : decode cL_law 90 = .ok (.invokestatic 8, 3) := by decide +kernel
theorem dL_law_93 : decode cL_law 93 = .ok (.invokestatic 103, 3) := by decide +kernel
theorem dL_law_96 : decode cL_law 96 = .ok (.ifCond .ne 5, 3) := by decide +kernel
theorem dL_law_99 : decode cL_law 99 = .ok (.iconst 0, 1) := by decide +kernel
theorem dL_law_100 : decode cL_law 100 = .ok (.ireturn, 1) := by decide +kernel
theorem dL_law_101 : decode cL_law 101 = .ok (.iconst 0, 1) := by decide +kernel
theorem dL_law_102 : decode cL_law 102 = .ok (.istore 7, 2) := by decide +kernel
theorem dL_law_104 : decode cL_law 104 = .ok (.iload 7, 2) := by decide +kernel
theorem dL_law_106 : decode cL_law 106 = .ok (.iconst 3, 1) := by decide +kernel
theorem dL_law_107 : decode cL_law 107 = .ok (.if_icmp .ge 52, 3) := by decide +kernel
theorem dL_law_110 : decode cL_law 110 = .ok (.aload_n 1, 1) := by decide +kernel
theorem dL_law_111 : decode cL_law 111 = .ok (.iload 4, 2) := by decide +kernel
theorem dL_law_113 : decode cL_law 113 = .ok (.bipush 7, 2) := by decide +kernel
theorem dL_law_115 : decode cL_law 115 = .ok (.iload 7, 2) := by decide +kernel
theorem dL_law_117 : decode cL_law 117 = .ok (.iadd, 1) := by decide +kernel
theorem dL_law_118 : decode cL_law 118 = .ok (.ishr, 1) := by decide +kernel
theorem dL_law_119 : decode cL_law 119 = .ok (.iconst 5, 1) := by decide +kernel
theorem dL_law_120 : decode cL_law 120 = .ok (.invokestatic 8, 3) := by decide +kernel
theorem dL_law_123 : decode cL_law 123 = .ok (.bipush 6, 2) := by decide +kernel
theorem dL_law_125 : decode cL_law 125 = .ok (.imul, 1) := by decide +kernel
theorem dL_law_126 : decode cL_law 126 = .ok (.iload 5, 2) := by decide +kernel
theorem dL_law_128 : decode cL_law 128 = .ok (.iload 7, 2) := by decide +kernel
theorem dL_law_130 : decode cL_law 130 = .ok (.ishr, 1) := by decide +kernel
theorem dL_law_131 : decode cL_law 131 = .ok (.invokestatic 49, 3) := by decide +kernel
theorem dL_law_134 : decode cL_law 134 = .ok (.iload 5, 2) := by decide +kernel
theorem dL_law_136 : decode cL_law 136 = .ok (.bipush 7, 2) := by decide +kernel
theorem dL_law_138 : decode cL_law 138 = .ok (.iload 7, 2) := by decide +kernel
theorem dL_law_140 : decode cL_law 140 = .ok (.iadd, 1) := by decide +kernel
theorem dL_law_141 : decode cL_law 141 = .ok (.ishr, 1) := by decide +kernel
theorem dL_law_142 : decode cL_law 142 = .ok (.invokestatic 49, 3) := by decide +kernel
theorem dL_law_145 : decode cL_law 145 = .ok (.invokestatic 107, 3) := by decide +kernel
theorem dL_law_148 : decode cL_law 148 = .ok (.ifCond .ne 5, 3) := by decide +kernel
theorem dL_law_151 : decode cL_law 151 = .ok (.iconst 0, 1) := by decide +kernel
theorem dL_law_152 : decode cL_law 152 = .ok (.ireturn, 1) := by decide +kernel
theorem dL_law_153 : decode cL_law 153 = .ok (.iinc 7 1, 3) := by decide +kernel
theorem dL_law_156 : decode cL_law 156 = .ok (.goto (-52), 3) := by decide +kernel
theorem dL_law_159 : decode cL_law 159 = .ok (.iinc 3 1, 3) := by decide +kernel
theorem dL_law_162 : decode cL_law 162 = .ok (.goto (-144), 3) := by decide +kernel
theorem dL_law_165 : decode cL_law 165 = .ok (.aload_n 1, 1) := by decide +kernel
theorem dL_law_166 : decode cL_law 166 = .ok (.sipush 1000, 3) := by decide +kernel
theorem dL_law_169 : decode cL_law 169 = .ok (.invokestatic 60, 3) := by decide +kernel
theorem dL_law_172 : decode cL_law 172 = .ok (.aload_n 2, 1) := by decide +kernel
theorem dL_law_173 : decode cL_law 173 = .ok (.sipush 1000, 3) := by decide +kernel
theorem dL_law_176 : decode cL_law 176 = .ok (.invokestatic 60, 3) := by decide +kernel
theorem dL_law_179 : decode cL_law 179 = .ok (.if_icmp .ne 25, 3) := by decide +kernel
theorem dL_law_182 : decode cL_law 182 = .ok (.aload_n 1, 1) := by decide +kernel
theorem dL_law_183 : decode cL_law 183 = .ok (.invokevirtual 66, 3) := by decide +kernel
theorem dL_law_186 : decode cL_law 186 = .ok (.ifCond .eq 18, 3) := by decide +kernel
theorem dL_law_189 : decode cL_law 189 = .ok (.aload_n 1, 1) := by decide +kernel
theorem dL_law_190 : decode cL_law 190 = .ok (.bipush 7, 2) := by decide +kernel
theorem dL_law_192 : decode cL_law 192 = .ok (.lconst 0, 1) := by decide +kernel
theorem dL_law_193 : decode cL_law 193 = .ok (.lconst 0, 1) := by decide +kernel
theorem dL_law_194 : decode cL_law 194 = .ok (.invokestatic 107, 3) := by decide +kernel
theorem dL_law_197 : decode cL_law 197 = .ok (.ifCond .eq 7, 3) := by decide +kernel
theorem dL_law_200 : decode cL_law 200 = .ok (.iconst 1, 1) := by decide +kernel
theorem dL_law_201 : decode cL_law 201 = .ok (.goto 4, 3) := by decide +kernel
theorem dL_law_204 : decode cL_law 204 = .ok (.iconst 0, 1) := by decide +kernel
theorem dL_law_205 : decode cL_law 205 = .ok (.ireturn, 1) := by decide +kernel
