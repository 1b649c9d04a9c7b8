theorem dX5_layPart_40 : decode cX5_layPart 40 = .ok (.aload_n 0, 1) := by decide +kernel
theorem dX5_layPart_41 : decode cX5_layPart 41 = .ok (.iload 5, 2) := by decide +kernel
theorem dX5_layPart_43 : decode cX5_layPart 43 = .ok (.iconst 1, 1) := by decide +kernel
theorem dX5_layPart_44 : decode cX5_layPart 44 = .ok (.iadd, 1) := by decide +kernel
theorem dX5_layPart_45 : decode cX5_layPart 45 = .ok (.iload_n 2, 1) := by decide +kernel
theorem dX5_layPart_46 : decode cX5_layPart 46 = .ok (.invokevirtual 89, 3) := by decide +kernel
theorem dX5_layPart_49 : decode cX5_layPart 49 = .ok (.iadd, 1) := by decide +kernel
theorem dX5_layPart_50 : decode cX5_layPart 50 = .ok (.istore 6, 2) := by decide +kernel
theorem dX5_layPart_52 : decode cX5_layPart 52 = .ok (.iload 4, 2) := by decide +kernel
theorem dX5_layPart_54 : decode cX5_layPart 54 = .ok (.iconst (-1), 1) := by decide +kernel
theorem dX5_layPart_55 : decode cX5_layPart 55 = .ok (.if_icmp .eq 10, 3) := by decide +kernel
theorem dX5_layPart_58 : decode cX5_layPart 58 = .ok (.iload 6, 2) := by decide +kernel
theorem dX5_layPart_60 : decode cX5_layPart 60 = .ok (.iload 4, 2) := by decide +kernel
theorem dX5_layPart_62 : decode cX5_layPart 62 = .ok (.if_icmp .ge 20, 3) := by decide +kernel
theorem dX5_layPart_65 : decode cX5_layPart 65 = .ok (.iload 6, 2) := by decide +kernel
theorem dX5_layPart_67 : decode cX5_layPart 67 = .ok (.istore 4, 2) := by decide +kernel
theorem dX5_layPart_69 : decode cX5_layPart 69 = .ok (.aload_n 0, 1) := by decide +kernel
theorem dX5_layPart_70 : decode cX5_layPart 70 = .ok (.getfield 41, 3) := by decide +kernel
theorem dX5_layPart_73 : decode cX5_layPart 73 = .ok (.bipush 10, 2) := by decide +kernel
theorem dX5_layPart_75 : decode cX5_layPart 75 = .ok (.iload_n 1, 1) := by decide +kernel
theorem dX5_layPart_76 : decode cX5_layPart 76 = .ok (.imul, 1) := by decide +kernel
theorem dX5_layPart_77 : decode cX5_layPart 77 = .ok (.iload_n 2, 1) := by decide +kernel
theorem dX5_layPart_78 : decode cX5_layPart 78 = .ok (.iadd, 1) := by decide +kernel
theorem dX5_layPart_79 : decode cX5_layPart 79 = .ok (.iload 5, 2) := by decide +kernel
theorem dX5_layPart_81 : decode cX5_layPart 81 = .ok (.iastore, 1) := by decide +kernel
theorem dX5_layPart_82 : decode cX5_layPart 82 = .ok (.iinc 5 1, 3) := by decide +kernel
theorem dX5_layPart_85 : decode cX5_layPart 85 = .ok (.goto (-77), 3) := by decide +kernel
theorem dX5_layPart_88 : decode cX5_layPart 88 = .ok (.aload_n 0, 1) := by decide +kernel
theorem dX5_layPart_89 : decode cX5_layPart 89 = .ok (.getfield 38, 3) := by decide +kernel
theorem dX5_layPart_92 : decode cX5_layPart 92 = .ok (.bipush 10, 2) := by decide +kernel
theorem dX5_layPart_94 : decode cX5_layPart 94 = .ok (.iload_n 1, 1) := by decide +kernel
theorem dX5_layPart_95 : decode cX5_layPart 95 = .ok (.imul, 1) := by decide +kernel
theorem dX5_layPart_96 : decode cX5_layPart 96 = .ok (.iload_n 2, 1) := by decide +kernel
theorem dX5_layPart_97 : decode cX5_layPart 97 = .ok (.iadd, 1) := by decide +kernel
theorem dX5_layPart_98 : decode cX5_layPart 98 = .ok (.iload 4, 2) := by decide +kernel
theorem dX5_layPart_100 : decode cX5_layPart 100 = .ok (.iload_n 3, 1) := by decide +kernel
theorem dX5_layPart_101 : decode cX5_layPart 101 = .ok (.iadd, 1) := by decide +kernel
theorem dX5_layPart_102 : decode cX5_layPart 102 = .ok (.iastore, 1) := by decide +kernel
theorem dX5_layPart_103 : decode cX5_layPart 103 = .ok (.return_, 1) := by decide +kernel
theorem dX5_testsOf_0 : decode cX5_testsOf 0 = .ok (.iconst 0, 1) := by decide +kernel
theorem dX5_testsOf_1 : decode cX5_testsOf 1 = .ok (.istore_n 2, 1) := by decide +kernel
theorem dX5_testsOf_2 : decode cX5_testsOf 2 = .ok (.aload_n 0, 1) := by decide +kernel
theorem dX5_testsOf_3 : decode cX5_testsOf 3 = .ok (.getfield 79, 3) := by decide +kernel
theorem dX5_testsOf_6 : decode cX5_testsOf 6 = .ok (.iconst 1, 1) := by decide +kernel
theorem dX5_testsOf_7 : decode cX5_testsOf 7 = .ok (.isub, 1) := by decide +kernel
theorem dX5_testsOf_8 : decode cX5_testsOf 8 = .ok (.istore_n 3, 1) := by decide +kernel
theorem dX5_testsOf_9 : decode cX5_testsOf 9 = .ok (.iconst 0, 1) := by decide +kernel
theorem dX5_testsOf_10 : decode cX5_testsOf 10 = .ok (.istore 4, 2) := by decide +kernel
theorem dX5_testsOf_12 : decode cX5_testsOf 12 = .ok (.iload_n 2, 1) := by decide +kernel
theorem dX5_testsOf_13 : decode cX5_testsOf 13 = .ok (.iload_n 3, 1) := by decide +kernel
theorem dX5_testsOf_14 : decode cX5_testsOf 14 = .ok (.if_icmp .gt 60, 3) := by decide +kernel
theorem dX5_testsOf_17 : decode cX5_testsOf 17 = .ok (.aload_n 0, 1) := by decide +kernel
theorem dX5_testsOf_18 : decode cX5_testsOf 18 = .ok (.getfield 41, 3) := by decide +kernel
theorem dX5_testsOf_21 : decode cX5_testsOf 21 = .ok (.bipush 10, 2) := by decide +kernel
theorem dX5_testsOf_23 : decode cX5_testsOf 23 = .ok (.iload_n 2, 1) := by decide +kernel
theorem dX5_testsOf_24 : decode cX5_testsOf 24 = .ok (.imul, 1) := by decide +kernel
theorem dX5_testsOf_25 : decode cX5_testsOf 25 = .ok (.iload_n 3, 1) := by decide +kernel
theorem dX5_testsOf_26 : decode cX5_testsOf 26 = .ok (.iadd, 1) := by decide +kernel
theorem dX5_testsOf_27 : decode cX5_testsOf 27 = .ok (.iaload, 1) := by decide +kernel
theorem dX5_testsOf_28 : decode cX5_testsOf 28 = .ok (.istore 5, 2) := by decide +kernel
theorem dX5_testsOf_30 : decode cX5_testsOf 30 = .ok (.iinc 4 1, 3) := by decide +kernel
theorem dX5_testsOf_33 : decode cX5_testsOf 33 = .ok (.aload_n 0, 1) := by decide +kernel
theorem dX5_testsOf_34 : decode cX5_testsOf 34 = .ok (.getfield 35, 3) := by decide +kernel
theorem dX5_testsOf_37 : decode cX5_testsOf 37 = .ok (.iload 5, 2) := by decide +kernel
theorem dX5_testsOf_39 : decode cX5_testsOf 39 = .ok (.iaload, 1) := by decide +kernel
theorem dX5_testsOf_40 : decode cX5_testsOf 40 = .ok (.iload_n 1, 1) := by decide +kernel
theorem dX5_testsOf_41 : decode cX5_testsOf 41 = .ok (.if_icmp .ne 6, 3) := by decide +kernel
theorem dX5_testsOf_44 : decode cX5_testsOf 44 = .ok (.iload 4, 2) := by decide +kernel
theorem dX5_testsOf_46 : decode cX5_testsOf 46 = .ok (.ireturn, 1) := by decide +kernel
theorem dX5_testsOf_47 : decode cX5_testsOf 47 = .ok (.iload_n 1, 1) := by decide +kernel
theorem dX5_testsOf_48 : decode cX5_testsOf 48 = .ok (.aload_n 0, 1) := by decide +kernel
theorem dX5_testsOf_49 : decode cX5_testsOf 49 = .ok (.getfield 35, 3) := by decide +kernel
theorem dX5_testsOf_52 : decode cX5_testsOf 52 = .ok (.iload 5, 2) := by decide +kernel
theorem dX5_testsOf_54 : decode cX5_testsOf 54 = .ok (.iaload, 1) := by decide +kernel
theorem dX5_testsOf_55 : decode cX5_testsOf 55 = .ok (.if_icmp .ge 11, 3) := by decide +kernel
theorem dX5_testsOf_58 : decode cX5_testsOf 58 = .ok (.iload 5, 2) := by decide +kernel
theorem dX5_testsOf_60 : decode cX5_testsOf 60 = .ok (.iconst 1, 1) := by decide +kernel
theorem dX5_testsOf_61 : decode cX5_testsOf 61 = .ok (.isub, 1) := by decide +kernel
theorem dX5_testsOf_62 : decode cX5_testsOf 62 = .ok (.istore_n 3, 1) := by decide +kernel
theorem dX5_testsOf_63 : decode cX5_testsOf 63 = .ok (.goto 8, 3) := by decide +kernel
theorem dX5_testsOf_66 : decode cX5_testsOf 66 = .ok (.iload 5, 2) := by decide +kernel
theorem dX5_testsOf_68 : decode cX5_testsOf 68 = .ok (.iconst 1, 1) := by decide +kernel
theorem dX5_testsOf_69 : decode cX5_testsOf 69 = .ok (.iadd, 1) := by decide +kernel
theorem dX5_testsOf_70 : decode cX5_testsOf 70 = .ok (.istore_n 2, 1) := by decide +kernel
theorem dX5_testsOf_71 : decode cX5_testsOf 71 = .ok (.goto (-59), 3) := by decide +kernel
theorem dX5_testsOf_74 : decode cX5_testsOf 74 = .ok (.iload 4, 2) := by decide +kernel
theorem dX5_testsOf_76 : decode cX5_testsOf 76 = .ok (.ireturn, 1) := by decide +kernel
theorem dX5_halvesOf_0 : decode cX5_halvesOf 0 = .ok (.lload_n 0, 1) := by decide +kernel
theorem dX5_halvesOf_1 : decode cX5_halvesOf 1 = .ok (.ldc2_w 92, 3) := by decide +kernel
theorem dX5_halvesOf_4 : decode cX5_halvesOf 4 = .ok (.land, 1) := by decide +kernel
theorem dX5_halvesOf_5 : decode cX5_halvesOf 5 = .ok (.lconst 0, 1) := by decide +kernel
theorem dX5_halvesOf_6 : decode cX5_halvesOf 6 = .ok (.lcmp, 1) := by decide +kernel
theorem dX5_halvesOf_7 : decode cX5_halvesOf 7 = .ok (.ifCond .eq 7, 3) := by decide +kernel
theorem dX5_halvesOf_10 : decode cX5_halvesOf 10 = .ok (.iconst 1, 1) := by decide +kernel
theorem dX5_halvesOf_11 : decode cX5_halvesOf 11 = .ok (.goto 4, 3) := by decide +kernel
theorem dX5_halvesOf_14 : decode cX5_halvesOf 14 = .ok (.iconst 0, 1) := by decide +kernel
theorem dX5_halvesOf_15 : decode cX5_halvesOf 15 = .ok (.lload_n 0, 1) := by decide +kernel
theorem dX5_halvesOf_16 : decode cX5_halvesOf 16 = .ok (.bipush 32, 2) := by decide +kernel
theorem dX5_halvesOf_18 : decode cX5_halvesOf 18 = .ok (.lushr, 1) := by decide +kernel
theorem dX5_halvesOf_19 : decode cX5_halvesOf 19 = .ok (.lconst 0, 1) := by decide +kernel
theorem dX5_halvesOf_20 : decode cX5_halvesOf 20 = .ok (.lcmp, 1) := by decide +kernel
theorem dX5_halvesOf_21 : decode cX5_halvesOf 21 = .ok (.ifCond .eq 7, 3) := by decide +kernel
theorem dX5_halvesOf_24 : decode cX5_halvesOf 24 = .ok (.iconst 1, 1) := by decide +kernel
theorem dX5_halvesOf_25 : decode cX5_halvesOf 25 = .ok (.goto 4, 3) := by decide +kernel
theorem dX5_halvesOf_28 : decode cX5_halvesOf 28 = .ok (.iconst 0, 1) := by decide +kernel
theorem dX5_halvesOf_29 : decode cX5_halvesOf 29 = .ok (.iadd, 1) := by decide +kernel
theorem dX5_halvesOf_30 : decode cX5_halvesOf 30 = .ok (.ireturn, 1) := by decide +kernel
theorem dX5_halves_0 : decode cX5_halves 0 = .ok (.iconst 0, 1) := by decide +kernel
theorem dX5_halves_1 : decode cX5_halves 1 = .ok (.istore_n 3, 1) := by decide +kernel
theorem dX5_halves_2 : decode cX5_halves 2 = .ok (.iconst 0, 1) := by decide +kernel
theorem dX5_halves_3 : decode cX5_halves 3 = .ok (.istore 4, 2) := by decide +kernel
theorem dX5_halves_5 : decode cX5_halves 5 = .ok (.iload 4, 2) := by decide +kernel
theorem dX5_halves_7 : decode cX5_halves 7 = .ok (.aload_n 0, 1) := by decide +kernel
theorem dX5_halves_8 : decode cX5_halves 8 = .ok (.getfield 26, 3) := by decide +kernel
theorem dX5_halves_11 : decode cX5_halves 11 = .ok (.iload_n 1, 1) := by decide +kernel
theorem dX5_halves_12 : decode cX5_halves 12 = .ok (.iaload, 1) := by decide +kernel
theorem dX5_halves_13 : decode cX5_halves 13 = .ok (.if_icmp .ge 67, 3) := by decide +kernel
theorem dX5_halves_16 : decode cX5_halves 16 = .ok (.bipush 10, 2) := by decide +kernel
theorem dX5_halves_18 : decode cX5_halves 18 = .ok (.iload_n 1, 1) := by decide +kernel
theorem dX5_halves_19 : decode cX5_halves 19 = .ok (.imul, 1) := by decide +kernel
theorem dX5_halves_20 : decode cX5_halves 20 = .ok (.iload 4, 2) := by decide +kernel
theorem dX5_halves_22 : decode cX5_halves 22 = .ok (.iadd, 1) := by decide +kernel
theorem dX5_halves_23 : decode cX5_halves 23 = .ok (.istore 5, 2) := by decide +kernel
theorem dX5_halves_25 : decode cX5_halves 25 = .ok (.aload_n 0, 1) := by decide +kernel
theorem dX5_halves_26 : decode cX5_halves 26 = .ok (.getfield 7, 3) := by decide +kernel
theorem dX5_halves_29 : decode cX5_halves 29 = .ok (.iload 5, 2) := by decide +kernel
theorem dX5_halves_31 : decode cX5_halves 31 = .ok (.iaload, 1) := by decide +kernel
theorem dX5_halves_32 : decode cX5_halves 32 = .ok (.iload_n 2, 1) := by decide +kernel
theorem dX5_halves_33 : decode cX5_halves 33 = .ok (.if_icmp .ne 41, 3) := by decide +kernel
theorem dX5_halves_36 : decode cX5_halves 36 = .ok (.aload_n 0, 1) := by decide +kernel
theorem dX5_halves_37 : decode cX5_halves 37 = .ok (.iload_n 1, 1) := by decide +kernel
theorem dX5_halves_38 : decode cX5_halves 38 = .ok (.iload 4, 2) := by decide +kernel
theorem dX5_halves_40 : decode cX5_halves 40 = .ok (.invokevirtual 75, 3) := by decide +kernel
theorem dX5_halves_43 : decode cX5_halves 43 = .ok (.iconst (-1), 1) := by decide +kernel
theorem dX5_halves_44 : decode cX5_halves 44 = .ok (.if_icmp .ne 30, 3) := by decide +kernel
theorem dX5_halves_47 : decode cX5_halves 47 = .ok (.iload_n 3, 1) := by decide +kernel
theorem dX5_halves_48 : decode cX5_halves 48 = .ok (.aload_n 0, 1) := by decide +kernel
theorem dX5_halves_49 : decode cX5_halves 49 = .ok (.getfield 16, 3) := by decide +kernel
theorem dX5_halves_52 : decode cX5_halves 52 = .ok (.iload 5, 2) := by decide +kernel
theorem dX5_halves_54 : decode cX5_halves 54 = .ok (.laload, 1) := by decide +kernel
theorem dX5_halves_55 : decode cX5_halves 55 = .ok (.invokestatic 94, 3) := by decide +kernel
theorem dX5_halves_58 : decode cX5_halves 58 = .ok (.iadd, 1) := by decide +kernel
theorem dX5_halves_59 : decode cX5_halves 59 = .ok (.istore_n 3, 1) := by decide +kernel
theorem dX5_halves_60 : decode cX5_halves 60 = .ok (.aload_n 0, 1) := by decide +kernel
theorem dX5_halves_61 : decode cX5_halves 61 = .ok (.getfield 16, 3) := by decide +kernel
theorem dX5_halves_64 : decode cX5_halves 64 = .ok (.iload 5, 2) := by decide +kernel
theorem dX5_halves_66 : decode cX5_halves 66 = .ok (.laload, 1) := by decide +kernel
theorem dX5_halves_67 : decode cX5_halves 67 = .ok (.lconst 0, 1) := by decide +kernel
theorem dX5_halves_68 : decode cX5_halves 68 = .ok (.lcmp, 1) := by decide +kernel
theorem dX5_halves_69 : decode cX5_halves 69 = .ok (.ifCond .ne 5, 3) := by decide +kernel
theorem dX5_halves_72 : decode cX5_halves 72 = .ok (.iload_n 3, 1) := by decide +kernel
theorem dX5_halves_73 : decode cX5_halves 73 = .ok (.ireturn, 1) := by decide +kernel
theorem dX5_halves_74 : decode cX5_halves 74 = .ok (.iinc 4 1, 3) := by decide +kernel
theorem dX5_halves_77 : decode cX5_halves 77 = .ok (.goto (-72), 3) := by decide +kernel
theorem dX5_halves_80 : decode cX5_halves 80 = .ok (.iload_n 3, 1) := by decide +kernel
theorem dX5_halves_81 : decode cX5_halves 81 = .ok (.ireturn, 1) := by decide +kernel
theorem dX5_worstOf_0 : decode cX5_worstOf 0 = .ok (.aload_n 0, 1) := by decide +kernel
theorem dX5_worstOf_1 : decode cX5_worstOf 1 = .ok (.iload_n 1, 1) := by decide +kernel
theorem dX5_worstOf_2 : decode cX5_worstOf 2 = .ok (.invokevirtual 98, 3) := by decide +kernel
theorem dX5_worstOf_5 : decode cX5_worstOf 5 = .ok (.iconst 0, 1) := by decide +kernel
theorem dX5_worstOf_6 : decode cX5_worstOf 6 = .ok (.istore_n 2, 1) := by decide +kernel
theorem dX5_worstOf_7 : decode cX5_worstOf 7 = .ok (.iconst 0, 1) := by decide +kernel
theorem dX5_worstOf_8 : decode cX5_worstOf 8 = .ok (.istore_n 3, 1) := by decide +kernel
theorem dX5_worstOf_9 : decode cX5_worstOf 9 = .ok (.iload_n 3, 1) := by decide +kernel
theorem dX5_worstOf_10 : decode cX5_worstOf 10 = .ok (.bipush 32, 2) := by decide +kernel
theorem dX5_worstOf_12 : decode cX5_worstOf 12 = .ok (.if_icmp .ge 36, 3) := by decide +kernel
theorem dX5_worstOf_15 : decode cX5_worstOf 15 = .ok (.aload_n 0, 1) := by decide +kernel
theorem dX5_worstOf_16 : decode cX5_worstOf 16 = .ok (.iload_n 3, 1) := by decide +kernel
theorem dX5_worstOf_17 : decode cX5_worstOf 17 = .ok (.invokevirtual 102, 3) := by decide +kernel
theorem dX5_worstOf_20 : decode cX5_worstOf 20 = .ok (.aload_n 0, 1) := by decide +kernel
theorem dX5_worstOf_21 : decode cX5_worstOf 21 = .ok (.iload_n 1, 1) := by decide +kernel
theorem dX5_worstOf_22 : decode cX5_worstOf 22 = .ok (.iload_n 3, 1) := by decide +kernel
theorem dX5_worstOf_23 : decode cX5_worstOf 23 = .ok (.invokevirtual 106, 3) := by decide +kernel
theorem dX5_worstOf_26 : decode cX5_worstOf 26 = .ok (.iadd, 1) := by decide +kernel
theorem dX5_worstOf_27 : decode cX5_worstOf 27 = .ok (.istore 4, 2) := by decide +kernel
theorem dX5_worstOf_29 : decode cX5_worstOf 29 = .ok (.iload 4, 2) := by decide +kernel
theorem dX5_worstOf_31 : decode cX5_worstOf 31 = .ok (.iload_n 2, 1) := by decide +kernel
theorem dX5_worstOf_32 : decode cX5_worstOf 32 = .ok (.if_icmp .le 8, 3) := by decide +kernel
theorem dX5_worstOf_35 : decode cX5_worstOf 35 = .ok (.iload 4, 2) := by decide +kernel
theorem dX5_worstOf_37 : decode cX5_worstOf 37 = .ok (.goto 4, 3) := by decide +kernel
theorem dX5_worstOf_40 : decode cX5_worstOf 40 = .ok (.iload_n 2, 1) := by decide +kernel
theorem dX5_worstOf_41 : decode cX5_worstOf 41 = .ok (.istore_n 2, 1) := by decide +kernel
theorem dX5_worstOf_42 : decode cX5_worstOf 42 = .ok (.iinc 3 1, 3) := by decide +kernel
theorem dX5_worstOf_45 : decode cX5_worstOf 45 = .ok (.goto (-36), 3) := by decide +kernel
theorem dX5_worstOf_48 : decode cX5_worstOf 48 = .ok (.iload_n 2, 1) := by decide +kernel
theorem dX5_worstOf_49 : decode cX5_worstOf 49 = .ok (.ireturn, 1) := by decide +kernel
theorem dX5_compile_0 : decode cX5_compile 0 = .ok (.aload_n 0, 1) := by decide +kernel
theorem dX5_compile_1 : decode cX5_compile 1 = .ok (.iload_n 1, 1) := by decide +kernel
theorem dX5_compile_2 : decode cX5_compile 2 = .ok (.iconst 0, 1) := by decide +kernel
theorem dX5_compile_3 : decode cX5_compile 3 = .ok (.sipush 1000, 3) := by decide +kernel
theorem dX5_compile_6 : decode cX5_compile 6 = .ok (.invokestatic 48, 3) := by decide +kernel
theorem dX5_compile_9 : decode cX5_compile 9 = .ok (.ifCond .eq 7, 3) := by decide +kernel
theorem dX5_compile_12 : decode cX5_compile 12 = .ok (.iconst 0, 1) := by decide +kernel
theorem dX5_compile_13 : decode cX5_compile 13 = .ok (.goto 4, 3) := by decide +kernel
theorem dX5_compile_16 : decode cX5_compile 16 = .ok (.iconst 1, 1) := by decide +kernel
theorem dX5_compile_17 : decode cX5_compile 17 = .ok (.invokevirtual 59, 3) := by decide +kernel
theorem dX5_compile_20 : decode cX5_compile 20 = .ok (.ifCond .ne 5, 3) := by decide +kernel
theorem dX5_compile_23 : decode cX5_compile 23 = .ok (.iconst 0, 1) := by decide +kernel
theorem dX5_compile_24 : decode cX5_compile 24 = .ok (.ireturn, 1) := by decide +kernel
theorem dX5_compile_25 : decode cX5_compile 25 = .ok (.iconst 0, 1) := by decide +kernel
theorem dX5_compile_26 : decode cX5_compile 26 = .ok (.istore_n 2, 1) := by decide +kernel
theorem dX5_compile_27 : decode cX5_compile 27 = .ok (.iconst 0, 1) := by decide +kernel
theorem dX5_compile_28 : decode cX5_compile 28 = .ok (.istore_n 3, 1) := by decide +kernel
theorem dX5_compile_29 : decode cX5_compile 29 = .ok (.iload_n 3, 1) := by decide +kernel
theorem dX5_compile_30 : decode cX5_compile 30 = .ok (.iconst 4, 1) := by decide +kernel
theorem dX5_compile_31 : decode cX5_compile 31 = .ok (.if_icmp .ge 17, 3) := by decide +kernel
theorem dX5_compile_34 : decode cX5_compile 34 = .ok (.iload_n 2, 1) := by decide +kernel
theorem dX5_compile_35 : decode cX5_compile 35 = .ok (.aload_n 0, 1) := by decide +kernel
theorem dX5_compile_36 : decode cX5_compile 36 = .ok (.iload_n 3, 1) := by decide +kernel
theorem dX5_compile_37 : decode cX5_compile 37 = .ok (.invokevirtual 109, 3) := by decide +kernel
theorem dX5_compile_40 : decode cX5_compile 40 = .ok (.iadd, 1) := by decide +kernel
theorem dX5_compile_41 : decode cX5_compile 41 = .ok (.istore_n 2, 1) := by decide +kernel
theorem dX5_compile_42 : decode cX5_compile 42 = .ok (.iinc 3 1, 3) := by decide +kernel
theorem dX5_compile_45 : decode cX5_compile 45 = .ok (.goto (-16), 3) := by decide +kernel
theorem dX5_compile_48 : decode cX5_compile 48 = .ok (.aload_n 0, 1) := by decide +kernel
theorem dX5_compile_49 : decode cX5_compile 49 = .ok (.aload_n 0, 1) := by decide +kernel
theorem dX5_compile_50 : decode cX5_compile 50 = .ok (.getfield 62, 3) := by decide +kernel
theorem dX5_compile_53 : decode cX5_compile 53 = .ok (.ifCond .ne 8, 3) := by decide +kernel
theorem dX5_compile_56 : decode cX5_compile 56 = .ok (.iload_n 2, 1) := by decide +kernel
theorem dX5_compile_57 : decode cX5_compile 57 = .ok (.iload_n 1, 1) := by decide +kernel
theorem dX5_compile_58 : decode cX5_compile 58 = .ok (.if_icmp .gt 7, 3) := by decide +kernel
theorem dX5_compile_61 : decode cX5_compile 61 = .ok (.iconst 1, 1) := by decide +kernel
theorem dX5_compile_62 : decode cX5_compile 62 = .ok (.goto 4, 3) := by decide +kernel
theorem dX5_compile_65 : decode cX5_compile 65 = .ok (.iconst 0, 1) := by decide +kernel
theorem dX5_compile_66 : decode cX5_compile 66 = .ok (.putfield 62, 3) := by decide +kernel
theorem dX5_compile_69 : decode cX5_compile 69 = .ok (.iload_n 2, 1) := by decide +kernel
theorem dX5_compile_70 : decode cX5_compile 70 = .ok (.iload_n 1, 1) := by decide +kernel
theorem dX5_compile_71 : decode cX5_compile 71 = .ok (.if_icmp .gt 7, 3) := by decide +kernel
theorem dX5_compile_74 : decode cX5_compile 74 = .ok (.iload_n 2, 1) := by decide +kernel
theorem dX5_compile_75 : decode cX5_compile 75 = .ok (.goto 4, 3) := by decide +kernel
theorem dX5_compile_78 : decode cX5_compile 78 = .ok (.iconst (-1), 1) := by decide +kernel
theorem dX5_compile_79 : decode cX5_compile 79 = .ok (.ireturn, 1) := by decide +kernel
theorem dX5_isCompiled_0 : decode cX5_isCompiled 0 = .ok (.aload_n 0, 1) := by decide +kernel
theorem dX5_isCompiled_1 : decode cX5_isCompiled 1 = .ok (.iconst 0, 1) := by decide +kernel
theorem dX5_isCompiled_2 : decode cX5_isCompiled 2 = .ok (.putfield 44, 3) := by decide +kernel
theorem dX5_isCompiled_5 : decode cX5_isCompiled 5 = .ok (.aload_n 0, 1) := by decide +kernel
theorem dX5_isCompiled_6 : decode cX5_isCompiled 6 = .ok (.getfield 62, 3) := by decide +kernel
theorem dX5_isCompiled_9 : decode cX5_isCompiled 9 = .ok (.ireturn, 1) := by decide +kernel
theorem dX5_test_0 : decode cX5_test 0 = .ok (.iload_n 1, 1) := by decide +kernel
theorem dX5_test_1 : decode cX5_test 1 = .ok (.invokestatic 52, 3) := by decide +kernel
theorem dX5_test_4 : decode cX5_test 4 = .ok (.ifCond .eq 12, 3) := by decide +kernel
theorem dX5_test_7 : decode cX5_test 7 = .ok (.iload_n 2, 1) := by decide +kernel
theorem dX5_test_8 : decode cX5_test 8 = .ok (.iconst 1, 1) := by decide +kernel
theorem dX5_test_9 : decode cX5_test 9 = .ok (.if_icmp .lt 7, 3) := by decide +kernel
theorem dX5_test_12 : decode cX5_test 12 = .ok (.iconst 1, 1) := by decide +kernel
theorem dX5_test_13 : decode cX5_test 13 = .ok (.goto 4, 3) := by decide +kernel
theorem dX5_test_16 : decode cX5_test 16 = .ok (.iconst 0, 1) := by decide +kernel
theorem dX5_test_17 : decode cX5_test 17 = .ok (.istore_n 3, 1) := by decide +kernel
theorem dX5_test_18 : decode cX5_test 18 = .ok (.aload_n 0, 1) := by decide +kernel
theorem dX5_test_19 : decode cX5_test 19 = .ok (.iload_n 3, 1) := by decide +kernel
theorem dX5_test_20 : decode cX5_test 20 = .ok (.ifCond .ne 7, 3) := by decide +kernel
theorem dX5_test_23 : decode cX5_test 23 = .ok (.iconst 1, 1) := by decide +kernel
theorem dX5_test_24 : decode cX5_test 24 = .ok (.goto 15, 3) := by decide +kernel
theorem dX5_test_27 : decode cX5_test 27 = .ok (.aload_n 0, 1) := by decide +kernel
theorem dX5_test_28 : decode cX5_test 28 = .ok (.getfield 62, 3) := by decide +kernel
theorem dX5_test_31 : decode cX5_test 31 = .ok (.ifCond .eq 7, 3) := by decide +kernel
theorem dX5_test_34 : decode cX5_test 34 = .ok (.iconst 0, 1) := by decide +kernel
theorem dX5_test_35 : decode cX5_test 35 = .ok (.goto 4, 3) := by decide +kernel
theorem dX5_test_38 : decode cX5_test 38 = .ok (.iconst 2, 1) := by decide +kernel
theorem dX5_test_39 : decode cX5_test 39 = .ok (.invokevirtual 59, 3) := by decide +kernel
theorem dX5_test_42 : decode cX5_test 42 = .ok (.ifCond .ne 5, 3) := by decide +kernel
theorem dX5_test_45 : decode cX5_test 45 = .ok (.iconst 0, 1) := by decide +kernel
theorem dX5_test_46 : decode cX5_test 46 = .ok (.ireturn, 1) := by decide +kernel
theorem dX5_test_47 : decode cX5_test 47 = .ok (.aload_n 0, 1) := by decide +kernel
theorem dX5_test_48 : decode cX5_test 48 = .ok (.iload_n 1, 1) := by decide +kernel
theorem dX5_test_49 : decode cX5_test 49 = .ok (.invokevirtual 98, 3) := by decide +kernel
theorem dX5_test_52 : decode cX5_test 52 = .ok (.iconst 0, 1) := by decide +kernel
theorem dX5_test_53 : decode cX5_test 53 = .ok (.istore 4, 2) := by decide +kernel
theorem dX5_test_55 : decode cX5_test 55 = .ok (.aload_n 0, 1) := by decide +kernel
theorem dX5_test_56 : decode cX5_test 56 = .ok (.getfield 79, 3) := by decide +kernel
theorem dX5_test_59 : decode cX5_test 59 = .ok (.iconst 1, 1) := by decide +kernel
theorem dX5_test_60 : decode cX5_test 60 = .ok (.isub, 1) := by decide +kernel
theorem dX5_test_61 : decode cX5_test 61 = .ok (.istore 5, 2) := by decide +kernel
theorem dX5_test_63 : decode cX5_test 63 = .ok (.iload_n 2, 1) := by decide +kernel
theorem dX5_test_64 : decode cX5_test 64 = .ok (.istore 6, 2) := by decide +kernel
theorem dX5_test_66 : decode cX5_test 66 = .ok (.iload 6, 2) := by decide +kernel
theorem dX5_test_68 : decode cX5_test 68 = .ok (.iconst 1, 1) := by decide +kernel
theorem dX5_test_69 : decode cX5_test 69 = .ok (.if_icmp .le 71, 3) := by decide +kernel
theorem dX5_test_72 : decode cX5_test 72 = .ok (.iload 4, 2) := by decide +kernel
theorem dX5_test_74 : decode cX5_test 74 = .ok (.iload 5, 2) := by decide +kernel
theorem dX5_test_76 : decode cX5_test 76 = .ok (.if_icmp .gt 64, 3) := by decide +kernel
theorem dX5_test_79 : decode cX5_test 79 = .ok (.aload_n 0, 1) := by decide +kernel
theorem dX5_test_80 : decode cX5_test 80 = .ok (.getfield 41, 3) := by decide +kernel
theorem dX5_test_83 : decode cX5_test 83 = .ok (.bipush 10, 2) := by decide +kernel
theorem dX5_test_85 : decode cX5_test 85 = .ok (.iload 4, 2) := by decide +kernel
theorem dX5_test_87 : decode cX5_test 87 = .ok (.imul, 1) := by decide +kernel
theorem dX5_test_88 : decode cX5_test 88 = .ok (.iload 5, 2) := by decide +kernel
theorem dX5_test_90 : decode cX5_test 90 = .ok (.iadd, 1) := by decide +kernel
theorem dX5_test_91 : decode cX5_test 91 = .ok (.iaload, 1) := by decide +kernel
theorem dX5_test_92 : decode cX5_test 92 = .ok (.istore 7, 2) := by decide +kernel
theorem dX5_test_94 : decode cX5_test 94 = .ok (.iload 6, 2) := by decide +kernel
theorem dX5_test_96 : decode cX5_test 96 = .ok (.iconst 2, 1) := by decide +kernel
theorem dX5_test_97 : decode cX5_test 97 = .ok (.irem, 1) := by decide +kernel
theorem dX5_test_98 : decode cX5_test 98 = .ok (.ifCond .ne 10, 3) := by decide +kernel
theorem dX5_test_101 : decode cX5_test 101 = .ok (.iload 7, 2) := by decide +kernel
theorem dX5_test_103 : decode cX5_test 103 = .ok (.iconst 1, 1) := by decide +kernel
theorem dX5_test_104 : decode cX5_test 104 = .ok (.isub, 1) := by decide +kernel
theorem dX5_test_105 : decode cX5_test 105 = .ok (.goto 5, 3) := by decide +kernel
theorem dX5_test_108 : decode cX5_test 108 = .ok (.iload 5, 2) := by decide +kernel
theorem dX5_test_110 : decode cX5_test 110 = .ok (.istore 5, 2) := by decide +kernel
theorem dX5_test_112 : decode cX5_test 112 = .ok (.iload 6, 2) := by decide +kernel
theorem dX5_test_114 : decode cX5_test 114 = .ok (.iconst 2, 1) := by decide +kernel
theorem dX5_test_115 : decode cX5_test 115 = .ok (.irem, 1) := by decide +kernel
theorem dX5_test_116 : decode cX5_test 116 = .ok (.iconst 1, 1) := by decide +kernel
theorem dX5_test_117 : decode cX5_test 117 = .ok (.if_icmp .ne 10, 3) := by decide +kernel
theorem dX5_test_120 : decode cX5_test 120 = .ok (.iload 7, 2) := by decide +kernel
theorem dX5_test_122 : decode cX5_test 122 = .ok (.iconst 1, 1) := by decide +kernel
theorem dX5_test_123 : decode cX5_test 123 = .ok (.iadd, 1) := by decide +kernel
theorem dX5_test_124 : decode cX5_test 124 = .ok (.goto 5, 3) := by decide +kernel
theorem dX5_test_127 : decode cX5_test 127 = .ok (.iload 4, 2) := by decide +kernel
theorem dX5_test_129 : decode cX5_test 129 = .ok (.istore 4, 2) := by decide +kernel
theorem dX5_test_131 : decode cX5_test 131 = .ok (.iload 6, 2) := by decide +kernel
theorem dX5_test_133 : decode cX5_test 133 = .ok (.iconst 2, 1) := by decide +kernel
theorem dX5_test_134 : decode cX5_test 134 = .ok (.idiv, 1) := by decide +kernel
theorem dX5_test_135 : decode cX5_test 135 = .ok (.istore 6, 2) := by decide +kernel
theorem dX5_test_137 : decode cX5_test 137 = .ok (.goto (-71), 3) := by decide +kernel
theorem dX5_test_140 : decode cX5_test 140 = .ok (.iload 4, 2) := by decide +kernel
theorem dX5_test_142 : decode cX5_test 142 = .ok (.iload 5, 2) := by decide +kernel
theorem dX5_test_144 : decode cX5_test 144 = .ok (.if_icmp .gt 24, 3) := by decide +kernel
theorem dX5_test_147 : decode cX5_test 147 = .ok (.aload_n 0, 1) := by decide +kernel
theorem dX5_test_148 : decode cX5_test 148 = .ok (.getfield 35, 3) := by decide +kernel
theorem dX5_test_151 : decode cX5_test 151 = .ok (.aload_n 0, 1) := by decide +kernel
theorem dX5_test_152 : decode cX5_test 152 = .ok (.getfield 41, 3) := by decide +kernel
theorem dX5_test_155 : decode cX5_test 155 = .ok (.bipush 10, 2) := by decide +kernel
theorem dX5_test_157 : decode cX5_test 157 = .ok (.iload 4, 2) := by decide +kernel
theorem dX5_test_159 : decode cX5_test 159 = .ok (.imul, 1) := by decide +kernel
theorem dX5_test_160 : decode cX5_test 160 = .ok (.iload 5, 2) := by decide +kernel
theorem dX5_test_162 : decode cX5_test 162 = .ok (.iadd, 1) := by decide +kernel
theorem dX5_test_163 : decode cX5_test 163 = .ok (.iaload, 1) := by decide +kernel
theorem dX5_test_164 : decode cX5_test 164 = .ok (.iaload, 1) := by decide +kernel
theorem dX5_test_165 : decode cX5_test 165 = .ok (.goto 4, 3) := by decide +kernel
theorem dX5_test_168 : decode cX5_test 168 = .ok (.iconst (-1), 1) := by decide +kernel
theorem dX5_test_169 : decode cX5_test 169 = .ok (.ireturn, 1) := by decide +kernel
theorem dX5_cost_0 : decode cX5_cost 0 = .ok (.aload_n 0, 1) := by decide +kernel
theorem dX5_cost_1 : decode cX5_cost 1 = .ok (.iload_n 1, 1) := by decide +kernel
theorem dX5_cost_2 : decode cX5_cost 2 = .ok (.invokestatic 52, 3) := by decide +kernel
theorem dX5_cost_5 : decode cX5_cost 5 = .ok (.ifCond .ne 7, 3) := by decide +kernel
theorem dX5_cost_8 : decode cX5_cost 8 = .ok (.iconst 1, 1) := by decide +kernel
theorem dX5_cost_9 : decode cX5_cost 9 = .ok (.goto 15, 3) := by decide +kernel
theorem dX5_cost_12 : decode cX5_cost 12 = .ok (.aload_n 0, 1) := by decide +kernel
theorem dX5_cost_13 : decode cX5_cost 13 = .ok (.getfield 62, 3) := by decide +kernel
theorem dX5_cost_16 : decode cX5_cost 16 = .ok (.ifCond .eq 7, 3) := by decide +kernel
theorem dX5_cost_19 : decode cX5_cost 19 = .ok (.iconst 0, 1) := by decide +kernel
theorem dX5_cost_20 : decode cX5_cost 20 = .ok (.goto 4, 3) := by decide +kernel
theorem dX5_cost_23 : decode cX5_cost 23 = .ok (.iconst 2, 1) := by decide +kernel
theorem dX5_cost_24 : decode cX5_cost 24 = .ok (.invokevirtual 59, 3) := by decide +kernel
theorem dX5_cost_27 : decode cX5_cost 27 = .ok (.ifCond .ne 5, 3) := by decide +kernel
theorem dX5_cost_30 : decode cX5_cost 30 = .ok (.iconst 0, 1) := by decide +kernel
theorem dX5_cost_31 : decode cX5_cost 31 = .ok (.ireturn, 1) := by decide +kernel
theorem dX5_cost_32 : decode cX5_cost 32 = .ok (.aload_n 0, 1) := by decide +kernel
theorem dX5_cost_33 : decode cX5_cost 33 = .ok (.iload_n 1, 1) := by decide +kernel
theorem dX5_cost_34 : decode cX5_cost 34 = .ok (.invokevirtual 98, 3) := by decide +kernel
theorem dX5_cost_37 : decode cX5_cost 37 = .ok (.aload_n 0, 1) := by decide +kernel
theorem dX5_cost_38 : decode cX5_cost 38 = .ok (.iconst 0, 1) := by decide +kernel
theorem dX5_cost_39 : decode cX5_cost 39 = .ok (.aload_n 0, 1) := by decide +kernel
theorem dX5_cost_40 : decode cX5_cost 40 = .ok (.getfield 79, 3) := by decide +kernel
theorem dX5_cost_43 : decode cX5_cost 43 = .ok (.iconst 1, 1) := by decide +kernel
theorem dX5_cost_44 : decode cX5_cost 44 = .ok (.isub, 1) := by decide +kernel
theorem dX5_cost_45 : decode cX5_cost 45 = .ok (.invokevirtual 89, 3) := by decide +kernel
theorem dX5_cost_48 : decode cX5_cost 48 = .ok (.ireturn, 1) := by decide +kernel
theorem dX5_worst_0 : decode cX5_worst 0 = .ok (.aload_n 0, 1) := by decide +kernel
theorem dX5_worst_1 : decode cX5_worst 1 = .ok (.iload_n 1, 1) := by decide +kernel
theorem dX5_worst_2 : decode cX5_worst 2 = .ok (.invokestatic 52, 3) := by decide +kernel
theorem dX5_worst_5 : decode cX5_worst 5 = .ok (.ifCond .ne 7, 3) := by decide +kernel
theorem dX5_worst_8 : decode cX5_worst 8 = .ok (.iconst 1, 1) := by decide +kernel
theorem dX5_worst_9 : decode cX5_worst 9 = .ok (.goto 15, 3) := by decide +kernel
theorem dX5_worst_12 : decode cX5_worst 12 = .ok (.aload_n 0, 1) := by decide +kernel
theorem dX5_worst_13 : decode cX5_worst 13 = .ok (.getfield 62, 3) := by decide +kernel
theorem dX5_worst_16 : decode cX5_worst 16 = .ok (.ifCond .eq 7, 3) := by decide +kernel
theorem dX5_worst_19 : decode cX5_worst 19 = .ok (.iconst 0, 1) := by decide +kernel
theorem dX5_worst_20 : decode cX5_worst 20 = .ok (.goto 4, 3) := by decide +kernel
theorem dX5_worst_23 : decode cX5_worst 23 = .ok (.iconst 2, 1) := by decide +kernel
theorem dX5_worst_24 : decode cX5_worst 24 = .ok (.invokevirtual 59, 3) := by decide +kernel
theorem dX5_worst_27 : decode cX5_worst 27 = .ok (.ifCond .eq 11, 3) := by decide +kernel
theorem dX5_worst_30 : decode cX5_worst 30 = .ok (.aload_n 0, 1) := by decide +kernel
theorem dX5_worst_31 : decode cX5_worst 31 = .ok (.iload_n 1, 1) := by decide +kernel
theorem dX5_worst_32 : decode cX5_worst 32 = .ok (.invokevirtual 109, 3) := by decide +kernel
theorem dX5_worst_35 : decode cX5_worst 35 = .ok (.goto 4, 3) := by decide +kernel
theorem dX5_worst_38 : decode cX5_worst 38 = .ok (.iconst 0, 1) := by decide +kernel
theorem dX5_worst_39 : decode cX5_worst 39 = .ok (.ireturn, 1) := by decide +kernel
theorem dX5_matches_0 : decode cX5_matches 0 = .ok (.aload_n 0, 1) := by decide +kernel
theorem dX5_matches_1 : decode cX5_matches 1 = .ok (.getfield 13, 3) := by decide +kernel
theorem dX5_matches_4 : decode cX5_matches 4 = .ok (.iload_n 1, 1) := by decide +kernel
theorem dX5_matches_5 : decode cX5_matches 5 = .ok (.iaload, 1) := by decide +kernel
theorem dX5_matches_6 : decode cX5_matches 6 = .ok (.ifCond .ne 7, 3) := by decide +kernel
theorem dX5_matches_9 : decode cX5_matches 9 = .ok (.lload_n 3, 1) := by decide +kernel
theorem dX5_matches_10 : decode cX5_matches 10 = .ok (.goto 5, 3) := by decide +kernel
theorem dX5_matches_13 : decode cX5_matches 13 = .ok (.lload 5, 2) := by decide +kernel
theorem dX5_matches_15 : decode cX5_matches 15 = .ok (.lstore 7, 2) := by decide +kernel
theorem dX5_matches_17 : decode cX5_matches 17 = .ok (.aload_n 0, 1) := by decide +kernel
theorem dX5_matches_18 : decode cX5_matches 18 = .ok (.getfield 7, 3) := by decide +kernel
theorem dX5_matches_21 : decode cX5_matches 21 = .ok (.iload_n 1, 1) := by decide +kernel
theorem dX5_matches_22 : decode cX5_matches 22 = .ok (.iaload, 1) := by decide +kernel
theorem dX5_matches_23 : decode cX5_matches 23 = .ok (.iload_n 2, 1) := by decide +kernel
theorem dX5_matches_24 : decode cX5_matches 24 = .ok (.if_icmp .ne 26, 3) := by decide +kernel
theorem dX5_matches_27 : decode cX5_matches 27 = .ok (.lload 7, 2) := by decide +kernel
theorem dX5_matches_29 : decode cX5_matches 29 = .ok (.aload_n 0, 1) := by decide +kernel
theorem dX5_matches_30 : decode cX5_matches 30 = .ok (.getfield 16, 3) := by decide +kernel
theorem dX5_matches_33 : decode cX5_matches 33 = .ok (.iload_n 1, 1) := by decide +kernel
theorem dX5_matches_34 : decode cX5_matches 34 = .ok (.laload, 1) := by decide +kernel
theorem dX5_matches_35 : decode cX5_matches 35 = .ok (.land, 1) := by decide +kernel
theorem dX5_matches_36 : decode cX5_matches 36 = .ok (.aload_n 0, 1) := by decide +kernel
theorem dX5_matches_37 : decode cX5_matches 37 = .ok (.getfield 20, 3) := by decide +kernel
theorem dX5_matches_40 : decode cX5_matches 40 = .ok (.iload_n 1, 1) := by decide +kernel
theorem dX5_matches_41 : decode cX5_matches 41 = .ok (.laload, 1) := by decide +kernel
theorem dX5_matches_42 : decode cX5_matches 42 = .ok (.lcmp, 1) := by decide +kernel
theorem dX5_matches_43 : decode cX5_matches 43 = .ok (.ifCond .ne 7, 3) := by decide +kernel
theorem dX5_matches_46 : decode cX5_matches 46 = .ok (.iconst 1, 1) := by decide +kernel
theorem dX5_matches_47 : decode cX5_matches 47 = .ok (.goto 4, 3) := by decide +kernel
theorem dX5_matches_50 : decode cX5_matches 50 = .ok (.iconst 0, 1) := by decide +kernel
theorem dX5_matches_51 : decode cX5_matches 51 = .ok (.ireturn, 1) := by decide +kernel
theorem dX5_judgeBy_0 : decode cX5_judgeBy 0 = .ok (.iconst 0, 1) := by decide +kernel
theorem dX5_judgeBy_1 : decode cX5_judgeBy 1 = .ok (.istore 7, 2) := by decide +kernel
theorem dX5_judgeBy_3 : decode cX5_judgeBy 3 = .ok (.iload 7, 2) := by decide +kernel
theorem dX5_judgeBy_5 : decode cX5_judgeBy 5 = .ok (.aload_n 0, 1) := by decide +kernel
theorem dX5_judgeBy_6 : decode cX5_judgeBy 6 = .ok (.getfield 26, 3) := by decide +kernel
theorem dX5_judgeBy_9 : decode cX5_judgeBy 9 = .ok (.iload_n 1, 1) := by decide +kernel
theorem dX5_judgeBy_10 : decode cX5_judgeBy 10 = .ok (.iaload, 1) := by decide +kernel
theorem dX5_judgeBy_11 : decode cX5_judgeBy 11 = .ok (.if_icmp .ge 40, 3) := by decide +kernel
theorem dX5_judgeBy_14 : decode cX5_judgeBy 14 = .ok (.aload_n 0, 1) := by decide +kernel
theorem dX5_judgeBy_15 : decode cX5_judgeBy 15 = .ok (.bipush 10, 2) := by decide +kernel
theorem dX5_judgeBy_17 : decode cX5_judgeBy 17 = .ok (.iload_n 1, 1) := by decide +kernel
theorem dX5_judgeBy_18 : decode cX5_judgeBy 18 = .ok (.imul, 1) := by decide +kernel
theorem dX5_judgeBy_19 : decode cX5_judgeBy 19 = .ok (.iload 7, 2) := by decide +kernel
theorem dX5_judgeBy_21 : decode cX5_judgeBy 21 = .ok (.iadd, 1) := by decide +kernel
theorem dX5_judgeBy_22 : decode cX5_judgeBy 22 = .ok (.iload_n 2, 1) := by decide +kernel
theorem dX5_judgeBy_23 : decode cX5_judgeBy 23 = .ok (.lload_n 3, 1) := by decide +kernel
theorem dX5_judgeBy_24 : decode cX5_judgeBy 24 = .ok (.lload 5, 2) := by decide +kernel
theorem dX5_judgeBy_26 : decode cX5_judgeBy 26 = .ok (.invokevirtual 112, 3) := by decide +kernel
theorem dX5_judgeBy_29 : decode cX5_judgeBy 29 = .ok (.ifCond .eq 16, 3) := by decide +kernel
theorem dX5_judgeBy_32 : decode cX5_judgeBy 32 = .ok (.aload_n 0, 1) := by decide +kernel
theorem dX5_judgeBy_33 : decode cX5_judgeBy 33 = .ok (.getfield 23, 3) := by decide +kernel
theorem dX5_judgeBy_36 : decode cX5_judgeBy 36 = .ok (.bipush 10, 2) := by decide +kernel
theorem dX5_judgeBy_38 : decode cX5_judgeBy 38 = .ok (.iload_n 1, 1) := by decide +kernel
theorem dX5_judgeBy_39 : decode cX5_judgeBy 39 = .ok (.imul, 1) := by decide +kernel
theorem dX5_judgeBy_40 : decode cX5_judgeBy 40 = .ok (.iload 7, 2) := by decide +kernel
theorem dX5_judgeBy_42 : decode cX5_judgeBy 42 = .ok (.iadd, 1) := by decide +kernel
theorem dX5_judgeBy_43 : decode cX5_judgeBy 43 = .ok (.iaload, 1) := by decide +kernel
theorem dX5_judgeBy_44 : decode cX5_judgeBy 44 = .ok (.ireturn, 1) := by decide +kernel
theorem dX5_judgeBy_45 : decode cX5_judgeBy 45 = .ok (.iinc 7 1, 3) := by decide +kernel
theorem dX5_judgeBy_48 : decode cX5_judgeBy 48 = .ok (.goto (-45), 3) := by decide +kernel
theorem dX5_judgeBy_51 : decode cX5_judgeBy 51 = .ok (.aload_n 0, 1) := by decide +kernel
theorem dX5_judgeBy_52 : decode cX5_judgeBy 52 = .ok (.getfield 29, 3) := by decide +kernel
theorem dX5_judgeBy_55 : decode cX5_judgeBy 55 = .ok (.iload_n 1, 1) := by decide +kernel
theorem dX5_judgeBy_56 : decode cX5_judgeBy 56 = .ok (.iaload, 1) := by decide +kernel
theorem dX5_judgeBy_57 : decode cX5_judgeBy 57 = .ok (.ireturn, 1) := by decide +kernel
theorem dX5_strictest_0 : decode cX5_strictest 0 = .ok (.iconst 0, 1) := by decide +kernel
theorem dX5_strictest_1 : decode cX5_strictest 1 = .ok (.istore 6, 2) := by decide +kernel
theorem dX5_strictest_3 : decode cX5_strictest 3 = .ok (.iconst 0, 1) := by decide +kernel
theorem dX5_strictest_4 : decode cX5_strictest 4 = .ok (.istore 7, 2) := by decide +kernel
theorem dX5_strictest_6 : decode cX5_strictest 6 = .ok (.iload 7, 2) := by decide +kernel
theorem dX5_strictest_8 : decode cX5_strictest 8 = .ok (.iconst 4, 1) := by decide +kernel
theorem dX5_strictest_9 : decode cX5_strictest 9 = .ok (.if_icmp .ge 37, 3) := by decide +kernel
theorem dX5_strictest_12 : decode cX5_strictest 12 = .ok (.aload_n 0, 1) := by decide +kernel
theorem dX5_strictest_13 : decode cX5_strictest 13 = .ok (.iload 7, 2) := by decide +kernel
theorem dX5_strictest_15 : decode cX5_strictest 15 = .ok (.iload_n 1, 1) := by decide +kernel
theorem dX5_strictest_16 : decode cX5_strictest 16 = .ok (.lload_n 2, 1) := by decide +kernel
theorem dX5_strictest_17 : decode cX5_strictest 17 = .ok (.lload 4, 2) := by decide +kernel
theorem dX5_strictest_19 : decode cX5_strictest 19 = .ok (.invokevirtual 116, 3) := by decide +kernel
theorem dX5_strictest_22 : decode cX5_strictest 22 = .ok (.istore 8, 2) := by decide +kernel
theorem dX5_strictest_24 : decode cX5_strictest 24 = .ok (.iload 8, 2) := by decide +kernel
theorem dX5_strictest_26 : decode cX5_strictest 26 = .ok (.iload 6, 2) := by decide +kernel
theorem dX5_strictest_28 : decode cX5_strictest 28 = .ok (.if_icmp .le 8, 3) := by decide +kernel
theorem dX5_strictest_31 : decode cX5_strictest 31 = .ok (.iload 8, 2) := by decide +kernel
theorem dX5_strictest_33 : decode cX5_strictest 33 = .ok (.goto 5, 3) := by decide +kernel
theorem dX5_strictest_36 : decode cX5_strictest 36 = .ok (.iload 6, 2) := by decide +kernel
theorem dX5_strictest_38 : decode cX5_strictest 38 = .ok (.istore 6, 2) := by decide +kernel
theorem dX5_strictest_40 : decode cX5_strictest 40 = .ok (.iinc 7 1, 3) := by decide +kernel
theorem dX5_strictest_43 : decode cX5_strictest 43 = .ok (.goto (-37), 3) := by decide +kernel
theorem dX5_strictest_46 : decode cX5_strictest 46 = .ok (.iload 6, 2) := by decide +kernel
theorem dX5_strictest_48 : decode cX5_strictest 48 = .ok (.ireturn, 1) := by decide +kernel
theorem dX5_judge_0 : decode cX5_judge 0 = .ok (.aload_n 0, 1) := by decide +kernel
theorem dX5_judge_1 : decode cX5_judge 1 = .ok (.iload_n 1, 1) := by decide +kernel
theorem dX5_judge_2 : decode cX5_judge 2 = .ok (.invokestatic 56, 3) := by decide +kernel
theorem dX5_judge_5 : decode cX5_judge 5 = .ok (.ifCond .ne 7, 3) := by decide +kernel
theorem dX5_judge_8 : decode cX5_judge 8 = .ok (.iconst 1, 1) := by decide +kernel
theorem dX5_judge_9 : decode cX5_judge 9 = .ok (.goto 15, 3) := by decide +kernel
theorem dX5_judge_12 : decode cX5_judge 12 = .ok (.aload_n 0, 1) := by decide +kernel
theorem dX5_judge_13 : decode cX5_judge 13 = .ok (.getfield 62, 3) := by decide +kernel
theorem dX5_judge_16 : decode cX5_judge 16 = .ok (.ifCond .eq 7, 3) := by decide +kernel
theorem dX5_judge_19 : decode cX5_judge 19 = .ok (.iconst 0, 1) := by decide +kernel
theorem dX5_judge_20 : decode cX5_judge 20 = .ok (.goto 4, 3) := by decide +kernel
theorem dX5_judge_23 : decode cX5_judge 23 = .ok (.iconst 2, 1) := by decide +kernel
theorem dX5_judge_24 : decode cX5_judge 24 = .ok (.invokevirtual 59, 3) := by decide +kernel
theorem dX5_judge_27 : decode cX5_judge 27 = .ok (.ifCond .eq 14, 3) := by decide +kernel
theorem dX5_judge_30 : decode cX5_judge 30 = .ok (.aload_n 0, 1) := by decide +kernel
theorem dX5_judge_31 : decode cX5_judge 31 = .ok (.iload_n 1, 1) := by decide +kernel
theorem dX5_judge_32 : decode cX5_judge 32 = .ok (.lload_n 2, 1) := by decide +kernel
theorem dX5_judge_33 : decode cX5_judge 33 = .ok (.lload 4, 2) := by decide +kernel
theorem dX5_judge_35 : decode cX5_judge 35 = .ok (.invokevirtual 120, 3) := by decide +kernel
theorem dX5_judge_38 : decode cX5_judge 38 = .ok (.goto 4, 3) := by decide +kernel
theorem dX5_judge_41 : decode cX5_judge 41 = .ok (.iconst 0, 1) := by decide +kernel
theorem dX5_judge_42 : decode cX5_judge 42 = .ok (.ireturn, 1) := by decide +kernel
theorem dX5_judgeByRules_0 : decode cX5_judgeByRules 0 = .ok (.aload_n 0, 1) := by decide +kernel
theorem dX5_judgeByRules_1 : decode cX5_judgeByRules 1 = .ok (.iload_n 1, 1) := by decide +kernel
theorem dX5_judgeByRules_2 : decode cX5_judgeByRules 2 = .ok (.invokestatic 56, 3) := by decide +kernel
theorem dX5_judgeByRules_5 : decode cX5_judgeByRules 5 = .ok (.ifCond .eq 7, 3) := by decide +kernel
theorem dX5_judgeByRules_8 : decode cX5_judgeByRules 8 = .ok (.iconst 0, 1) := by decide +kernel
theorem dX5_judgeByRules_9 : decode cX5_judgeByRules 9 = .ok (.goto 4, 3) := by decide +kernel
theorem dX5_judgeByRules_12 : decode cX5_judgeByRules 12 = .ok (.iconst 1, 1) := by decide +kernel
theorem dX5_judgeByRules_13 : decode cX5_judgeByRules 13 = .ok (.invokevirtual 59, 3) := by decide +kernel
theorem dX5_judgeByRules_16 : decode cX5_judgeByRules 16 = .ok (.ifCond .eq 14, 3) := by decide +kernel
theorem dX5_judgeByRules_19 : decode cX5_judgeByRules 19 = .ok (.aload_n 0, 1) := by decide +kernel
theorem dX5_judgeByRules_20 : decode cX5_judgeByRules 20 = .ok (.iload_n 1, 1) := by decide +kernel
theorem dX5_judgeByRules_21 : decode cX5_judgeByRules 21 = .ok (.lload_n 2, 1) := by decide +kernel
theorem dX5_judgeByRules_22 : decode cX5_judgeByRules 22 = .ok (.lload 4, 2) := by decide +kernel
theorem dX5_judgeByRules_24 : decode cX5_judgeByRules 24 = .ok (.invokevirtual 120, 3) := by decide +kernel
theorem dX5_judgeByRules_27 : decode cX5_judgeByRules 27 = .ok (.goto 4, 3) := by decide +kernel
theorem dX5_judgeByRules_30 : decode cX5_judgeByRules 30 = .ok (.iconst 0, 1) := by decide +kernel
theorem dX5_judgeByRules_31 : decode cX5_judgeByRules 31 = .ok (.ireturn, 1) := by decide +kernel
theorem dX5_halvesMade_0 : decode cX5_halvesMade 0 = .ok (.iconst 0, 1) := by decide +kernel
theorem dX5_halvesMade_1 : decode cX5_halvesMade 1 = .ok (.istore 7, 2) := by decide +kernel
theorem dX5_halvesMade_3 : decode cX5_halvesMade 3 = .ok (.iconst 0, 1) := by decide +kernel
theorem dX5_halvesMade_4 : decode cX5_halvesMade 4 = .ok (.istore 8, 2) := by decide +kernel
theorem dX5_halvesMade_6 : decode cX5_halvesMade 6 = .ok (.iload 8, 2) := by decide +kernel
theorem dX5_halvesMade_8 : decode cX5_halvesMade 8 = .ok (.aload_n 0, 1) := by decide +kernel
theorem dX5_halvesMade_9 : decode cX5_halvesMade 9 = .ok (.getfield 26, 3) := by decide +kernel
theorem dX5_halvesMade_12 : decode cX5_halvesMade 12 = .ok (.iload_n 1, 1) := by decide +kernel
theorem dX5_halvesMade_13 : decode cX5_halvesMade 13 = .ok (.iaload, 1) := by decide +kernel
theorem dX5_halvesMade_14 : decode cX5_halvesMade 14 = .ok (.if_icmp .ge 126, 3) := by decide +kernel
theorem dX5_halvesMade_17 : decode cX5_halvesMade 17 = .ok (.bipush 10, 2) := by decide +kernel
theorem dX5_halvesMade_19 : decode cX5_halvesMade 19 = .ok (.iload_n 1, 1) := by decide +kernel
theorem dX5_halvesMade_20 : decode cX5_halvesMade 20 = .ok (.imul, 1) := by decide +kernel
theorem dX5_halvesMade_21 : decode cX5_halvesMade 21 = .ok (.iload 8, 2) := by decide +kernel
theorem dX5_halvesMade_23 : decode cX5_halvesMade 23 = .ok (.iadd, 1) := by decide +kernel
theorem dX5_halvesMade_24 : decode cX5_halvesMade 24 = .ok (.istore 9, 2) := by decide +kernel
theorem dX5_halvesMade_26 : decode cX5_halvesMade 26 = .ok (.aload_n 0, 1) := by decide +kernel
theorem dX5_halvesMade_27 : decode cX5_halvesMade 27 = .ok (.getfield 7, 3) := by decide +kernel
theorem dX5_halvesMade_30 : decode cX5_halvesMade 30 = .ok (.iload 9, 2) := by decide +kernel
theorem dX5_halvesMade_32 : decode cX5_halvesMade 32 = .ok (.iaload, 1) := by decide +kernel
theorem dX5_halvesMade_33 : decode cX5_halvesMade 33 = .ok (.iload_n 2, 1) := by decide +kernel
theorem dX5_halvesMade_34 : decode cX5_halvesMade 34 = .ok (.if_icmp .ne 100, 3) := by decide +kernel
theorem dX5_halvesMade_37 : decode cX5_halvesMade 37 = .ok (.aload_n 0, 1) := by decide +kernel
theorem dX5_halvesMade_38 : decode cX5_halvesMade 38 = .ok (.iload_n 1, 1) := by decide +kernel
theorem dX5_halvesMade_39 : decode cX5_halvesMade 39 = .ok (.iload 8, 2) := by decide +kernel
theorem dX5_halvesMade_41 : decode cX5_halvesMade 41 = .ok (.invokevirtual 75, 3) := by decide +kernel
theorem dX5_halvesMade_44 : decode cX5_halvesMade 44 = .ok (.iconst (-1), 1) := by decide +kernel
theorem dX5_halvesMade_45 : decode cX5_halvesMade 45 = .ok (.if_icmp .ne 89, 3) := by decide +kernel
theorem dX5_halvesMade_48 : decode cX5_halvesMade 48 = .ok (.aload_n 0, 1) := by decide +kernel
theorem dX5_halvesMade_49 : decode cX5_halvesMade 49 = .ok (.getfield 13, 3) := by decide +kernel
theorem dX5_halvesMade_52 : decode cX5_halvesMade 52 = .ok (.iload 9, 2) := by decide +kernel
theorem dX5_halvesMade_54 : decode cX5_halvesMade 54 = .ok (.iaload, 1) := by decide +kernel
theorem dX5_halvesMade_55 : decode cX5_halvesMade 55 = .ok (.ifCond .ne 7, 3) := by decide +kernel
theorem dX5_halvesMade_58 : decode cX5_halvesMade 58 = .ok (.lload_n 3, 1) := by decide +kernel
theorem dX5_halvesMade_59 : decode cX5_halvesMade 59 = .ok (.goto 5, 3) := by decide +kernel
theorem dX5_halvesMade_62 : decode cX5_halvesMade 62 = .ok (.lload 5, 2) := by decide +kernel
theorem dX5_halvesMade_64 : decode cX5_halvesMade 64 = .ok (.aload_n 0, 1) := by decide +kernel
theorem dX5_halvesMade_65 : decode cX5_halvesMade 65 = .ok (.getfield 16, 3) := by decide +kernel
theorem dX5_halvesMade_68 : decode cX5_halvesMade 68 = .ok (.iload 9, 2) := by decide +kernel
theorem dX5_halvesMade_70 : decode cX5_halvesMade 70 = .ok (.laload, 1) := by decide +kernel
theorem dX5_halvesMade_71 : decode cX5_halvesMade 71 = .ok (.land, 1) := by decide +kernel
theorem dX5_halvesMade_72 : decode cX5_halvesMade 72 = .ok (.aload_n 0, 1) := by decide +kernel
theorem dX5_halvesMade_73 : decode cX5_halvesMade 73 = .ok (.getfield 20, 3) := by decide +kernel
theorem dX5_halvesMade_76 : decode cX5_halvesMade 76 = .ok (.iload 9, 2) := by decide +kernel
theorem dX5_halvesMade_78 : decode cX5_halvesMade 78 = .ok (.laload, 1) := by decide +kernel
theorem dX5_halvesMade_79 : decode cX5_halvesMade 79 = .ok (.lxor, 1) := by decide +kernel
theorem dX5_halvesMade_80 : decode cX5_halvesMade 80 = .ok (.lstore 10, 2) := by decide +kernel
theorem dX5_halvesMade_82 : decode cX5_halvesMade 82 = .ok (.lload 10, 2) := by decide +kernel
theorem dX5_halvesMade_84 : decode cX5_halvesMade 84 = .ok (.ldc2_w 92, 3) := by decide +kernel
theorem dX5_halvesMade_87 : decode cX5_halvesMade 87 = .ok (.land, 1) := by decide +kernel
theorem dX5_halvesMade_88 : decode cX5_halvesMade 88 = .ok (.lconst 0, 1) := by decide +kernel
theorem dX5_halvesMade_89 : decode cX5_halvesMade 89 = .ok (.lcmp, 1) := by decide +kernel
theorem dX5_halvesMade_90 : decode cX5_halvesMade 90 = .ok (.ifCond .eq 7, 3) := by decide +kernel
theorem dX5_halvesMade_93 : decode cX5_halvesMade 93 = .ok (.iconst 1, 1) := by decide +kernel
theorem dX5_halvesMade_94 : decode cX5_halvesMade 94 = .ok (.goto 4, 3) := by decide +kernel
theorem dX5_halvesMade_97 : decode cX5_halvesMade 97 = .ok (.iconst 0, 1) := by decide +kernel
theorem dX5_halvesMade_98 : decode cX5_halvesMade 98 = .ok (.istore 12, 2) := by decide +kernel
theorem dX5_halvesMade_100 : decode cX5_halvesMade 100 = .ok (.iload 7, 2) := by decide +kernel
theorem dX5_halvesMade_102 : decode cX5_halvesMade 102 = .ok (.iload 12, 2) := by decide +kernel
theorem dX5_halvesMade_104 : decode cX5_halvesMade 104 = .ok (.ifCond .eq 7, 3) := by decide +kernel
theorem dX5_halvesMade_107 : decode cX5_halvesMade 107 = .ok (.iconst 1, 1) := by decide +kernel
theorem dX5_halvesMade_108 : decode cX5_halvesMade 108 = .ok (.goto 13, 3) := by decide +kernel
theorem dX5_halvesMade_111 : decode cX5_halvesMade 111 = .ok (.aload_n 0, 1) := by decide +kernel
theorem dX5_halvesMade_112 : decode cX5_halvesMade 112 = .ok (.getfield 16, 3) := by decide +kernel
theorem dX5_halvesMade_115 : decode cX5_halvesMade 115 = .ok (.iload 9, 2) := by decide +kernel
theorem dX5_halvesMade_117 : decode cX5_halvesMade 117 = .ok (.laload, 1) := by decide +kernel
theorem dX5_halvesMade_118 : decode cX5_halvesMade 118 = .ok (.invokestatic 94, 3) := by decide +kernel
theorem dX5_halvesMade_121 : decode cX5_halvesMade 121 = .ok (.iadd, 1) := by decide +kernel
theorem dX5_halvesMade_122 : decode cX5_halvesMade 122 = .ok (.istore 7, 2) := by decide +kernel
theorem dX5_halvesMade_124 : decode cX5_halvesMade 124 = .ok (.lload 10, 2) := by decide +kernel
theorem dX5_halvesMade_126 : decode cX5_halvesMade 126 = .ok (.lconst 0, 1) := by decide +kernel
theorem dX5_halvesMade_127 : decode cX5_halvesMade 127 = .ok (.lcmp, 1) := by decide +kernel
theorem dX5_halvesMade_128 : decode cX5_halvesMade 128 = .ok (.ifCond .ne 6, 3) := by decide +kernel
theorem dX5_halvesMade_131 : decode cX5_halvesMade 131 = .ok (.iload 7, 2) := by decide +kernel
theorem dX5_halvesMade_133 : decode cX5_halvesMade 133 = .ok (.ireturn, 1) := by decide +kernel
theorem dX5_halvesMade_134 : decode cX5_halvesMade 134 = .ok (.iinc 8 1, 3) := by decide +kernel
theorem dX5_halvesMade_137 : decode cX5_halvesMade 137 = .ok (.goto (-131), 3) := by decide +kernel
theorem dX5_halvesMade_140 : decode cX5_halvesMade 140 = .ok (.iload 7, 2) := by decide +kernel
theorem dX5_halvesMade_142 : decode cX5_halvesMade 142 = .ok (.ireturn, 1) := by decide +kernel
theorem dX5_path_0 : decode cX5_path 0 = .ok (.aload_n 0, 1) := by decide +kernel
theorem dX5_path_1 : decode cX5_path 1 = .ok (.iload_n 1, 1) := by decide +kernel
theorem dX5_path_2 : decode cX5_path 2 = .ok (.invokestatic 56, 3) := by decide +kernel
theorem dX5_path_5 : decode cX5_path 5 = .ok (.ifCond .ne 7, 3) := by decide +kernel
theorem dX5_path_8 : decode cX5_path 8 = .ok (.iconst 1, 1) := by decide +kernel
theorem dX5_path_9 : decode cX5_path 9 = .ok (.goto 15, 3) := by decide +kernel
theorem dX5_path_12 : decode cX5_path 12 = .ok (.aload_n 0, 1) := by decide +kernel
theorem dX5_path_13 : decode cX5_path 13 = .ok (.getfield 62, 3) := by decide +kernel
theorem dX5_path_16 : decode cX5_path 16 = .ok (.ifCond .eq 7, 3) := by decide +kernel
theorem dX5_path_19 : decode cX5_path 19 = .ok (.iconst 0, 1) := by decide +kernel
theorem dX5_path_20 : decode cX5_path 20 = .ok (.goto 4, 3) := by decide +kernel
theorem dX5_path_23 : decode cX5_path 23 = .ok (.iconst 2, 1) := by decide +kernel
theorem dX5_path_24 : decode cX5_path 24 = .ok (.invokevirtual 59, 3) := by decide +kernel
theorem dX5_path_27 : decode cX5_path 27 = .ok (.ifCond .ne 5, 3) := by decide +kernel
theorem dX5_path_30 : decode cX5_path 30 = .ok (.iconst 0, 1) := by decide +kernel
theorem dX5_path_31 : decode cX5_path 31 = .ok (.ireturn, 1) := by decide +kernel
theorem dX5_path_32 : decode cX5_path 32 = .ok (.iconst 0, 1) := by decide +kernel
theorem dX5_path_33 : decode cX5_path 33 = .ok (.istore 6, 2) := by decide +kernel
theorem dX5_path_35 : decode cX5_path 35 = .ok (.iconst 0, 1) := by decide +kernel
theorem dX5_path_36 : decode cX5_path 36 = .ok (.istore 7, 2) := by decide +kernel
theorem dX5_path_38 : decode cX5_path 38 = .ok (.iload 7, 2) := by decide +kernel
theorem dX5_path_40 : decode cX5_path 40 = .ok (.iconst 4, 1) := by decide +kernel
theorem dX5_path_41 : decode cX5_path 41 = .ok (.if_icmp .ge 36, 3) := by decide +kernel
theorem dX5_path_44 : decode cX5_path 44 = .ok (.aload_n 0, 1) := by decide +kernel
theorem dX5_path_45 : decode cX5_path 45 = .ok (.iload 7, 2) := by decide +kernel
theorem dX5_path_47 : decode cX5_path 47 = .ok (.invokevirtual 98, 3) := by decide +kernel
theorem dX5_path_50 : decode cX5_path 50 = .ok (.iload 6, 2) := by decide +kernel
theorem dX5_path_52 : decode cX5_path 52 = .ok (.aload_n 0, 1) := by decide +kernel
theorem dX5_path_53 : decode cX5_path 53 = .ok (.iload_n 1, 1) := by decide +kernel
theorem dX5_path_54 : decode cX5_path 54 = .ok (.invokevirtual 102, 3) := by decide +kernel
theorem dX5_path_57 : decode cX5_path 57 = .ok (.aload_n 0, 1) := by decide +kernel
theorem dX5_path_58 : decode cX5_path 58 = .ok (.iload 7, 2) := by decide +kernel
theorem dX5_path_60 : decode cX5_path 60 = .ok (.iload_n 1, 1) := by decide +kernel
theorem dX5_path_61 : decode cX5_path 61 = .ok (.lload_n 2, 1) := by decide +kernel
theorem dX5_path_62 : decode cX5_path 62 = .ok (.lload 4, 2) := by decide +kernel
theorem dX5_path_64 : decode cX5_path 64 = .ok (.invokevirtual 124, 3) := by decide +kernel
theorem dX5_path_67 : decode cX5_path 67 = .ok (.iadd, 1) := by decide +kernel
theorem dX5_path_68 : decode cX5_path 68 = .ok (.iadd, 1) := by decide +kernel
theorem dX5_path_69 : decode cX5_path 69 = .ok (.istore 6, 2) := by decide +kernel
theorem dX5_path_71 : decode cX5_path 71 = .ok (.iinc 7 1, 3) := by decide +kernel
theorem dX5_path_74 : decode cX5_path 74 = .ok (.goto (-36), 3) := by decide +kernel
theorem dX5_path_77 : decode cX5_path 77 = .ok (.iload 6, 2) := by decide +kernel
theorem dX5_path_79 : decode cX5_path 79 = .ok (.ireturn, 1) := by decide +kernel
theorem dX5_actionOf_0 : decode cX5_actionOf 0 = .ok (.aload_n 0, 1) := by decide +kernel
theorem dX5_actionOf_1 : decode cX5_actionOf 1 = .ok (.iload_n 1, 1) := by decide +kernel
theorem dX5_actionOf_2 : decode cX5_actionOf 2 = .ok (.invokestatic 52, 3) := by decide +kernel
theorem dX5_actionOf_5 : decode cX5_actionOf 5 = .ok (.ifCond .eq 14, 3) := by decide +kernel
theorem dX5_actionOf_8 : decode cX5_actionOf 8 = .ok (.iload_n 2, 1) := by decide +kernel
theorem dX5_actionOf_9 : decode cX5_actionOf 9 = .ok (.invokestatic 56, 3) := by decide +kernel
theorem dX5_actionOf_12 : decode cX5_actionOf 12 = .ok (.ifCond .eq 7, 3) := by decide +kernel
theorem dX5_actionOf_15 : decode cX5_actionOf 15 = .ok (.iconst 0, 1) := by decide +kernel
theorem dX5_actionOf_16 : decode cX5_actionOf 16 = .ok (.goto 4, 3) := by decide +kernel
theorem dX5_actionOf_19 : decode cX5_actionOf 19 = .ok (.iconst 1, 1) := by decide +kernel
theorem dX5_actionOf_20 : decode cX5_actionOf 20 = .ok (.invokevirtual 59, 3) := by decide +kernel
theorem dX5_actionOf_23 : decode cX5_actionOf 23 = .ok (.ifCond .eq 15, 3) := by decide +kernel
theorem dX5_actionOf_26 : decode cX5_actionOf 26 = .ok (.aload_n 0, 1) := by decide +kernel
theorem dX5_actionOf_27 : decode cX5_actionOf 27 = .ok (.iload_n 1, 1) := by decide +kernel
theorem dX5_actionOf_28 : decode cX5_actionOf 28 = .ok (.iload_n 2, 1) := by decide +kernel
theorem dX5_actionOf_29 : decode cX5_actionOf 29 = .ok (.lload_n 3, 1) := by decide +kernel
theorem dX5_actionOf_30 : decode cX5_actionOf 30 = .ok (.lload 5, 2) := by decide +kernel
theorem dX5_actionOf_32 : decode cX5_actionOf 32 = .ok (.invokevirtual 116, 3) := by decide +kernel
theorem dX5_actionOf_35 : decode cX5_actionOf 35 = .ok (.goto 4, 3) := by decide +kernel
theorem dX5_actionOf_38 : decode cX5_actionOf 38 = .ok (.iconst 0, 1) := by decide +kernel
theorem dX5_actionOf_39 : decode cX5_actionOf 39 = .ok (.ireturn, 1) := by decide +kernel
