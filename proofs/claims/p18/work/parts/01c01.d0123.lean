theorem dX0_init_0 : decode cX0_init 0 = .ok (.aload_n 0, 1) := by decide +kernel
theorem dX0_init_1 : decode cX0_init 1 = .ok (.invokespecial 3, 3) := by decide +kernel
theorem dX0_init_4 : decode cX0_init 4 = .ok (.aload_n 0, 1) := by decide +kernel
theorem dX0_init_5 : decode cX0_init 5 = .ok (.new 9, 3) := by decide +kernel
theorem dX0_init_8 : decode cX0_init 8 = .ok (.dup, 1) := by decide +kernel
theorem dX0_init_9 : decode cX0_init 9 = .ok (.invokespecial 11, 3) := by decide +kernel
theorem dX0_init_12 : decode cX0_init 12 = .ok (.putfield 12, 3) := by decide +kernel
theorem dX0_init_15 : decode cX0_init 15 = .ok (.aload_n 0, 1) := by decide +kernel
theorem dX0_init_16 : decode cX0_init 16 = .ok (.new 9, 3) := by decide +kernel
theorem dX0_init_19 : decode cX0_init 19 = .ok (.dup, 1) := by decide +kernel
theorem dX0_init_20 : decode cX0_init 20 = .ok (.invokespecial 11, 3) := by decide +kernel
theorem dX0_init_23 : decode cX0_init 23 = .ok (.putfield 18, 3) := by decide +kernel
theorem dX0_init_26 : decode cX0_init 26 = .ok (.return_, 1) := by decide +kernel
theorem dX0_isFull_0 : decode cX0_isFull 0 = .ok (.aload_n 0, 1) := by decide +kernel
theorem dX0_isFull_1 : decode cX0_isFull 1 = .ok (.getfield 12, 3) := by decide +kernel
theorem dX0_isFull_4 : decode cX0_isFull 4 = .ok (.invokevirtual 21, 3) := by decide +kernel
theorem dX0_isFull_7 : decode cX0_isFull 7 = .ok (.bipush 10, 2) := by decide +kernel
theorem dX0_isFull_9 : decode cX0_isFull 9 = .ok (.if_icmp .lt 7, 3) := by decide +kernel
theorem dX0_isFull_12 : decode cX0_isFull 12 = .ok (.iconst 1, 1) := by decide +kernel
theorem dX0_isFull_13 : decode cX0_isFull 13 = .ok (.goto 4, 3) := by decide +kernel
theorem dX0_isFull_16 : decode cX0_isFull 16 = .ok (.iconst 0, 1) := by decide +kernel
theorem dX0_isFull_17 : decode cX0_isFull 17 = .ok (.ireturn, 1) := by decide +kernel
theorem dX0_append_0 : decode cX0_append 0 = .ok (.aload_n 0, 1) := by decide +kernel
theorem dX0_append_1 : decode cX0_append 1 = .ok (.getfield 12, 3) := by decide +kernel
theorem dX0_append_4 : decode cX0_append 4 = .ok (.aload_n 1, 1) := by decide +kernel
theorem dX0_append_5 : decode cX0_append 5 = .ok (.invokevirtual 25, 3) := by decide +kernel
theorem dX0_append_8 : decode cX0_append 8 = .ok (.pop, 1) := by decide +kernel
theorem dX0_append_9 : decode cX0_append 9 = .ok (.aload_n 0, 1) := by decide +kernel
theorem dX0_append_10 : decode cX0_append 10 = .ok (.getfield 12, 3) := by decide +kernel
theorem dX0_append_13 : decode cX0_append 13 = .ok (.invokevirtual 21, 3) := by decide +kernel
theorem dX0_append_16 : decode cX0_append 16 = .ok (.iconst 1, 1) := by decide +kernel
theorem dX0_append_17 : decode cX0_append 17 = .ok (.isub, 1) := by decide +kernel
theorem dX0_append_18 : decode cX0_append 18 = .ok (.ireturn, 1) := by decide +kernel
theorem dX0_drop_0 : decode cX0_drop 0 = .ok (.iload_n 1, 1) := by decide +kernel
theorem dX0_drop_1 : decode cX0_drop 1 = .ok (.ifCond .lt 23, 3) := by decide +kernel
theorem dX0_drop_4 : decode cX0_drop 4 = .ok (.iload_n 1, 1) := by decide +kernel
theorem dX0_drop_5 : decode cX0_drop 5 = .ok (.aload_n 0, 1) := by decide +kernel
theorem dX0_drop_6 : decode cX0_drop 6 = .ok (.getfield 12, 3) := by decide +kernel
theorem dX0_drop_9 : decode cX0_drop 9 = .ok (.invokevirtual 21, 3) := by decide +kernel
theorem dX0_drop_12 : decode cX0_drop 12 = .ok (.if_icmp .ge 12, 3) := by decide +kernel
theorem dX0_drop_15 : decode cX0_drop 15 = .ok (.aload_n 0, 1) := by decide +kernel
theorem dX0_drop_16 : decode cX0_drop 16 = .ok (.getfield 12, 3) := by decide +kernel
theorem dX0_drop_19 : decode cX0_drop 19 = .ok (.iload_n 1, 1) := by decide +kernel
theorem dX0_drop_20 : decode cX0_drop 20 = .ok (.invokevirtual 29, 3) := by decide +kernel
theorem dX0_drop_23 : decode cX0_drop 23 = .ok (.pop, 1) := by decide +kernel
theorem dX0_drop_24 : decode cX0_drop 24 = .ok (.aload_n 0, 1) := by decide +kernel
theorem dX0_drop_25 : decode cX0_drop 25 = .ok (.getfield 12, 3) := by decide +kernel
theorem dX0_drop_28 : decode cX0_drop 28 = .ok (.invokevirtual 21, 3) := by decide +kernel
theorem dX0_drop_31 : decode cX0_drop 31 = .ok (.ireturn, 1) := by decide +kernel
theorem dX0_hiderOf_0 : decode cX0_hiderOf 0 = .ok (.iload_n 1, 1) := by decide +kernel
theorem dX0_hiderOf_1 : decode cX0_hiderOf 1 = .ok (.ifCond .lt 14, 3) := by decide +kernel
theorem dX0_hiderOf_4 : decode cX0_hiderOf 4 = .ok (.iload_n 1, 1) := by decide +kernel
theorem dX0_hiderOf_5 : decode cX0_hiderOf 5 = .ok (.aload_n 0, 1) := by decide +kernel
theorem dX0_hiderOf_6 : decode cX0_hiderOf 6 = .ok (.getfield 12, 3) := by decide +kernel
theorem dX0_hiderOf_9 : decode cX0_hiderOf 9 = .ok (.invokevirtual 21, 3) := by decide +kernel
theorem dX0_hiderOf_12 : decode cX0_hiderOf 12 = .ok (.if_icmp .lt 5, 3) := by decide +kernel
theorem dX0_hiderOf_15 : decode cX0_hiderOf 15 = .ok (.iconst (-1), 1) := by decide +kernel
theorem dX0_hiderOf_16 : decode cX0_hiderOf 16 = .ok (.ireturn, 1) := by decide +kernel
theorem dX0_hiderOf_17 : decode cX0_hiderOf 17 = .ok (.aload_n 0, 1) := by decide +kernel
theorem dX0_hiderOf_18 : decode cX0_hiderOf 18 = .ok (.getfield 12, 3) := by decide +kernel
theorem dX0_hiderOf_21 : decode cX0_hiderOf 21 = .ok (.iload_n 1, 1) := by decide +kernel
theorem dX0_hiderOf_22 : decode cX0_hiderOf 22 = .ok (.invokevirtual 33, 3) := by decide +kernel
theorem dX0_hiderOf_25 : decode cX0_hiderOf 25 = .ok (.checkcast 36, 3) := by decide +kernel
theorem dX0_hiderOf_28 : decode cX0_hiderOf 28 = .ok (.astore_n 2, 1) := by decide +kernel
theorem dX0_hiderOf_29 : decode cX0_hiderOf 29 = .ok (.aload_n 2, 1) := by decide +kernel
theorem dX0_hiderOf_30 : decode cX0_hiderOf 30 = .ok (.invokevirtual 38, 3) := by decide +kernel
theorem dX0_hiderOf_33 : decode cX0_hiderOf 33 = .ok (.ifCond .eq 5, 3) := by decide +kernel
theorem dX0_hiderOf_36 : decode cX0_hiderOf 36 = .ok (.iload_n 1, 1) := by decide +kernel
theorem dX0_hiderOf_37 : decode cX0_hiderOf 37 = .ok (.ireturn, 1) := by decide +kernel
theorem dX0_hiderOf_38 : decode cX0_hiderOf 38 = .ok (.iconst 0, 1) := by decide +kernel
theorem dX0_hiderOf_39 : decode cX0_hiderOf 39 = .ok (.istore_n 3, 1) := by decide +kernel
theorem dX0_hiderOf_40 : decode cX0_hiderOf 40 = .ok (.iload_n 3, 1) := by decide +kernel
theorem dX0_hiderOf_41 : decode cX0_hiderOf 41 = .ok (.iload_n 1, 1) := by decide +kernel
theorem dX0_hiderOf_42 : decode cX0_hiderOf 42 = .ok (.if_icmp .ge 29, 3) := by decide +kernel
theorem dX0_hiderOf_45 : decode cX0_hiderOf 45 = .ok (.aload_n 0, 1) := by decide +kernel
theorem dX0_hiderOf_46 : decode cX0_hiderOf 46 = .ok (.getfield 12, 3) := by decide +kernel
theorem dX0_hiderOf_49 : decode cX0_hiderOf 49 = .ok (.iload_n 3, 1) := by decide +kernel
theorem dX0_hiderOf_50 : decode cX0_hiderOf 50 = .ok (.invokevirtual 33, 3) := by decide +kernel
theorem dX0_hiderOf_53 : decode cX0_hiderOf 53 = .ok (.checkcast 36, 3) := by decide +kernel
theorem dX0_hiderOf_56 : decode cX0_hiderOf 56 = .ok (.aload_n 2, 1) := by decide +kernel
theorem dX0_hiderOf_57 : decode cX0_hiderOf 57 = .ok (.invokevirtual 42, 3) := by decide +kernel
theorem dX0_hiderOf_60 : decode cX0_hiderOf 60 = .ok (.ifCond .eq 5, 3) := by decide +kernel
theorem dX0_hiderOf_63 : decode cX0_hiderOf 63 = .ok (.iload_n 3, 1) := by decide +kernel
theorem dX0_hiderOf_64 : decode cX0_hiderOf 64 = .ok (.ireturn, 1) := by decide +kernel
theorem dX0_hiderOf_65 : decode cX0_hiderOf 65 = .ok (.iinc 3 1, 3) := by decide +kernel
theorem dX0_hiderOf_68 : decode cX0_hiderOf 68 = .ok (.goto (-28), 3) := by decide +kernel
theorem dX0_hiderOf_71 : decode cX0_hiderOf 71 = .ok (.iconst (-1), 1) := by decide +kernel
theorem dX0_hiderOf_72 : decode cX0_hiderOf 72 = .ok (.ireturn, 1) := by decide +kernel
theorem dX0_planTree_0 : decode cX0_planTree 0 = .ok (.aload_n 0, 1) := by decide +kernel
theorem dX0_planTree_1 : decode cX0_planTree 1 = .ok (.invokevirtual 46, 3) := by decide +kernel
theorem dX0_planTree_4 : decode cX0_planTree 4 = .ok (.aload_n 1, 1) := by decide +kernel
theorem dX0_planTree_5 : decode cX0_planTree 5 = .ok (.invokevirtual 49, 3) := by decide +kernel
theorem dX0_planTree_8 : decode cX0_planTree 8 = .ok (.iconst 0, 1) := by decide +kernel
theorem dX0_planTree_9 : decode cX0_planTree 9 = .ok (.istore_n 3, 1) := by decide +kernel
theorem dX0_planTree_10 : decode cX0_planTree 10 = .ok (.iload_n 3, 1) := by decide +kernel
theorem dX0_planTree_11 : decode cX0_planTree 11 = .ok (.aload_n 2, 1) := by decide +kernel
theorem dX0_planTree_12 : decode cX0_planTree 12 = .ok (.arraylength, 1) := by decide +kernel
theorem dX0_planTree_13 : decode cX0_planTree 13 = .ok (.if_icmp .ge 27, 3) := by decide +kernel
theorem dX0_planTree_16 : decode cX0_planTree 16 = .ok (.aload_n 0, 1) := by decide +kernel
theorem dX0_planTree_17 : decode cX0_planTree 17 = .ok (.iload_n 3, 1) := by decide +kernel
theorem dX0_planTree_18 : decode cX0_planTree 18 = .ok (.invokevirtual 54, 3) := by decide +kernel
theorem dX0_planTree_21 : decode cX0_planTree 21 = .ok (.ifCond .eq 13, 3) := by decide +kernel
theorem dX0_planTree_24 : decode cX0_planTree 24 = .ok (.aload_n 1, 1) := by decide +kernel
theorem dX0_planTree_25 : decode cX0_planTree 25 = .ok (.iload_n 3, 1) := by decide +kernel
theorem dX0_planTree_26 : decode cX0_planTree 26 = .ok (.aload_n 2, 1) := by decide +kernel
theorem dX0_planTree_27 : decode cX0_planTree 27 = .ok (.iload_n 3, 1) := by decide +kernel
theorem dX0_planTree_28 : decode cX0_planTree 28 = .ok (.iaload, 1) := by decide +kernel
theorem dX0_planTree_29 : decode cX0_planTree 29 = .ok (.iconst 1, 1) := by decide +kernel
theorem dX0_planTree_30 : decode cX0_planTree 30 = .ok (.iadd, 1) := by decide +kernel
theorem dX0_planTree_31 : decode cX0_planTree 31 = .ok (.invokevirtual 58, 3) := by decide +kernel
theorem dX0_planTree_34 : decode cX0_planTree 34 = .ok (.iinc 3 1, 3) := by decide +kernel
theorem dX0_planTree_37 : decode cX0_planTree 37 = .ok (.goto (-27), 3) := by decide +kernel
theorem dX0_planTree_40 : decode cX0_planTree 40 = .ok (.aload_n 1, 1) := by decide +kernel
theorem dX0_planTree_41 : decode cX0_planTree 41 = .ok (.invokevirtual 62, 3) := by decide +kernel
theorem dX0_planTree_44 : decode cX0_planTree 44 = .ok (.aload_n 0, 1) := by decide +kernel
theorem dX0_planTree_45 : decode cX0_planTree 45 = .ok (.aload_n 1, 1) := by decide +kernel
theorem dX0_planTree_46 : decode cX0_planTree 46 = .ok (.invokevirtual 65, 3) := by decide +kernel
theorem dX0_planTree_49 : decode cX0_planTree 49 = .ok (.putfield 69, 3) := by decide +kernel
theorem dX0_planTree_52 : decode cX0_planTree 52 = .ok (.aload_n 0, 1) := by decide +kernel
theorem dX0_planTree_53 : decode cX0_planTree 53 = .ok (.aload_n 1, 1) := by decide +kernel
theorem dX0_planTree_54 : decode cX0_planTree 54 = .ok (.invokevirtual 73, 3) := by decide +kernel
theorem dX0_planTree_57 : decode cX0_planTree 57 = .ok (.putfield 76, 3) := by decide +kernel
theorem dX0_planTree_60 : decode cX0_planTree 60 = .ok (.return_, 1) := by decide +kernel
theorem dX0_gatherReached_0 : decode cX0_gatherReached 0 = .ok (.aload_n 0, 1) := by decide +kernel
theorem dX0_gatherReached_1 : decode cX0_gatherReached 1 = .ok (.getfield 18, 3) := by decide +kernel
theorem dX0_gatherReached_4 : decode cX0_gatherReached 4 = .ok (.invokevirtual 80, 3) := by decide +kernel
theorem dX0_gatherReached_7 : decode cX0_gatherReached 7 = .ok (.iconst 0, 1) := by decide +kernel
theorem dX0_gatherReached_8 : decode cX0_gatherReached 8 = .ok (.istore_n 1, 1) := by decide +kernel
theorem dX0_gatherReached_9 : decode cX0_gatherReached 9 = .ok (.iload_n 1, 1) := by decide +kernel
theorem dX0_gatherReached_10 : decode cX0_gatherReached 10 = .ok (.aload_n 0, 1) := by decide +kernel
theorem dX0_gatherReached_11 : decode cX0_gatherReached 11 = .ok (.getfield 12, 3) := by decide +kernel
theorem dX0_gatherReached_14 : decode cX0_gatherReached 14 = .ok (.invokevirtual 21, 3) := by decide +kernel
theorem dX0_gatherReached_17 : decode cX0_gatherReached 17 = .ok (.if_icmp .ge 37, 3) := by decide +kernel
theorem dX0_gatherReached_20 : decode cX0_gatherReached 20 = .ok (.aload_n 0, 1) := by decide +kernel
theorem dX0_gatherReached_21 : decode cX0_gatherReached 21 = .ok (.iload_n 1, 1) := by decide +kernel
theorem dX0_gatherReached_22 : decode cX0_gatherReached 22 = .ok (.invokevirtual 83, 3) := by decide +kernel
theorem dX0_gatherReached_25 : decode cX0_gatherReached 25 = .ok (.iconst (-1), 1) := by decide +kernel
theorem dX0_gatherReached_26 : decode cX0_gatherReached 26 = .ok (.if_icmp .ne 22, 3) := by decide +kernel
theorem dX0_gatherReached_29 : decode cX0_gatherReached 29 = .ok (.aload_n 0, 1) := by decide +kernel
theorem dX0_gatherReached_30 : decode cX0_gatherReached 30 = .ok (.getfield 18, 3) := by decide +kernel
theorem dX0_gatherReached_33 : decode cX0_gatherReached 33 = .ok (.aload_n 0, 1) := by decide +kernel
theorem dX0_gatherReached_34 : decode cX0_gatherReached 34 = .ok (.getfield 12, 3) := by decide +kernel
theorem dX0_gatherReached_37 : decode cX0_gatherReached 37 = .ok (.iload_n 1, 1) := by decide +kernel
theorem dX0_gatherReached_38 : decode cX0_gatherReached 38 = .ok (.invokevirtual 33, 3) := by decide +kernel
theorem dX0_gatherReached_41 : decode cX0_gatherReached 41 = .ok (.checkcast 36, 3) := by decide +kernel
theorem dX0_gatherReached_44 : decode cX0_gatherReached 44 = .ok (.invokevirtual 25, 3) := by decide +kernel
theorem dX0_gatherReached_47 : decode cX0_gatherReached 47 = .ok (.pop, 1) := by decide +kernel
theorem dX0_gatherReached_48 : decode cX0_gatherReached 48 = .ok (.iinc 1 1, 3) := by decide +kernel
theorem dX0_gatherReached_51 : decode cX0_gatherReached 51 = .ok (.goto (-42), 3) := by decide +kernel
theorem dX0_gatherReached_54 : decode cX0_gatherReached 54 = .ok (.return_, 1) := by decide +kernel
theorem dX0_isReached_0 : decode cX0_isReached 0 = .ok (.iconst 0, 1) := by decide +kernel
theorem dX0_isReached_1 : decode cX0_isReached 1 = .ok (.istore_n 2, 1) := by decide +kernel
theorem dX0_isReached_2 : decode cX0_isReached 2 = .ok (.iload_n 2, 1) := by decide +kernel
theorem dX0_isReached_3 : decode cX0_isReached 3 = .ok (.aload_n 0, 1) := by decide +kernel
theorem dX0_isReached_4 : decode cX0_isReached 4 = .ok (.getfield 18, 3) := by decide +kernel
theorem dX0_isReached_7 : decode cX0_isReached 7 = .ok (.invokevirtual 21, 3) := by decide +kernel
theorem dX0_isReached_10 : decode cX0_isReached 10 = .ok (.if_icmp .ge 29, 3) := by decide +kernel
theorem dX0_isReached_13 : decode cX0_isReached 13 = .ok (.aload_n 0, 1) := by decide +kernel
theorem dX0_isReached_14 : decode cX0_isReached 14 = .ok (.getfield 18, 3) := by decide +kernel
theorem dX0_isReached_17 : decode cX0_isReached 17 = .ok (.iload_n 2, 1) := by decide +kernel
theorem dX0_isReached_18 : decode cX0_isReached 18 = .ok (.invokevirtual 33, 3) := by decide +kernel
theorem dX0_isReached_21 : decode cX0_isReached 21 = .ok (.checkcast 36, 3) := by decide +kernel
theorem dX0_isReached_24 : decode cX0_isReached 24 = .ok (.getfield 87, 3) := by decide +kernel
theorem dX0_isReached_27 : decode cX0_isReached 27 = .ok (.iload_n 1, 1) := by decide +kernel
theorem dX0_isReached_28 : decode cX0_isReached 28 = .ok (.if_icmp .ne 5, 3) := by decide +kernel
theorem dX0_isReached_31 : decode cX0_isReached 31 = .ok (.iconst 1, 1) := by decide +kernel
theorem dX0_isReached_32 : decode cX0_isReached 32 = .ok (.ireturn, 1) := by decide +kernel
theorem dX0_isReached_33 : decode cX0_isReached 33 = .ok (.iinc 2 1, 3) := by decide +kernel
theorem dX0_isReached_36 : decode cX0_isReached 36 = .ok (.goto (-34), 3) := by decide +kernel
theorem dX0_isReached_39 : decode cX0_isReached 39 = .ok (.iconst 0, 1) := by decide +kernel
theorem dX0_isReached_40 : decode cX0_isReached 40 = .ok (.ireturn, 1) := by decide +kernel
theorem dX0_worstPath_0 : decode cX0_worstPath 0 = .ok (.iconst 0, 1) := by decide +kernel
theorem dX0_worstPath_1 : decode cX0_worstPath 1 = .ok (.istore_n 1, 1) := by decide +kernel
theorem dX0_worstPath_2 : decode cX0_worstPath 2 = .ok (.iconst 0, 1) := by decide +kernel
theorem dX0_worstPath_3 : decode cX0_worstPath 3 = .ok (.istore_n 2, 1) := by decide +kernel
theorem dX0_worstPath_4 : decode cX0_worstPath 4 = .ok (.iload_n 2, 1) := by decide +kernel
theorem dX0_worstPath_5 : decode cX0_worstPath 5 = .ok (.bipush 32, 2) := by decide +kernel
theorem dX0_worstPath_7 : decode cX0_worstPath 7 = .ok (.if_icmp .ge 25, 3) := by decide +kernel
theorem dX0_worstPath_10 : decode cX0_worstPath 10 = .ok (.iload_n 1, 1) := by decide +kernel
theorem dX0_worstPath_11 : decode cX0_worstPath 11 = .ok (.aload_n 0, 1) := by decide +kernel
theorem dX0_worstPath_12 : decode cX0_worstPath 12 = .ok (.iload_n 2, 1) := by decide +kernel
theorem dX0_worstPath_13 : decode cX0_worstPath 13 = .ok (.invokevirtual 99, 3) := by decide +kernel
theorem dX0_worstPath_16 : decode cX0_worstPath 16 = .ok (.aload_n 0, 1) := by decide +kernel
theorem dX0_worstPath_17 : decode cX0_worstPath 17 = .ok (.iload_n 2, 1) := by decide +kernel
theorem dX0_worstPath_18 : decode cX0_worstPath 18 = .ok (.invokevirtual 102, 3) := by decide +kernel
theorem dX0_worstPath_21 : decode cX0_worstPath 21 = .ok (.iadd, 1) := by decide +kernel
theorem dX0_worstPath_22 : decode cX0_worstPath 22 = .ok (.invokestatic 105, 3) := by decide +kernel
theorem dX0_worstPath_25 : decode cX0_worstPath 25 = .ok (.istore_n 1, 1) := by decide +kernel
theorem dX0_worstPath_26 : decode cX0_worstPath 26 = .ok (.iinc 2 1, 3) := by decide +kernel
theorem dX0_worstPath_29 : decode cX0_worstPath 29 = .ok (.goto (-25), 3) := by decide +kernel
theorem dX0_worstPath_32 : decode cX0_worstPath 32 = .ok (.iload_n 1, 1) := by decide +kernel
theorem dX0_worstPath_33 : decode cX0_worstPath 33 = .ok (.ireturn, 1) := by decide +kernel
theorem dX0_pathOf_0 : decode cX0_pathOf 0 = .ok (.aload_n 0, 1) := by decide +kernel
theorem dX0_pathOf_1 : decode cX0_pathOf 1 = .ok (.iload_n 1, 1) := by decide +kernel
theorem dX0_pathOf_2 : decode cX0_pathOf 2 = .ok (.invokevirtual 99, 3) := by decide +kernel
theorem dX0_pathOf_5 : decode cX0_pathOf 5 = .ok (.istore 6, 2) := by decide +kernel
theorem dX0_pathOf_7 : decode cX0_pathOf 7 = .ok (.iconst 0, 1) := by decide +kernel
theorem dX0_pathOf_8 : decode cX0_pathOf 8 = .ok (.istore 7, 2) := by decide +kernel
theorem dX0_pathOf_10 : decode cX0_pathOf 10 = .ok (.iload 7, 2) := by decide +kernel
theorem dX0_pathOf_12 : decode cX0_pathOf 12 = .ok (.aload_n 0, 1) := by decide +kernel
theorem dX0_pathOf_13 : decode cX0_pathOf 13 = .ok (.getfield 18, 3) := by decide +kernel
theorem dX0_pathOf_16 : decode cX0_pathOf 16 = .ok (.invokevirtual 21, 3) := by decide +kernel
theorem dX0_pathOf_19 : decode cX0_pathOf 19 = .ok (.if_icmp .ge 59, 3) := by decide +kernel
theorem dX0_pathOf_22 : decode cX0_pathOf 22 = .ok (.aload_n 0, 1) := by decide +kernel
theorem dX0_pathOf_23 : decode cX0_pathOf 23 = .ok (.getfield 18, 3) := by decide +kernel
theorem dX0_pathOf_26 : decode cX0_pathOf 26 = .ok (.iload 7, 2) := by decide +kernel
theorem dX0_pathOf_28 : decode cX0_pathOf 28 = .ok (.invokevirtual 33, 3) := by decide +kernel
theorem dX0_pathOf_31 : decode cX0_pathOf 31 = .ok (.checkcast 36, 3) := by decide +kernel
theorem dX0_pathOf_34 : decode cX0_pathOf 34 = .ok (.astore 8, 2) := by decide +kernel
theorem dX0_pathOf_36 : decode cX0_pathOf 36 = .ok (.aload 8, 2) := by decide +kernel
theorem dX0_pathOf_38 : decode cX0_pathOf 38 = .ok (.getfield 87, 3) := by decide +kernel
theorem dX0_pathOf_41 : decode cX0_pathOf 41 = .ok (.iload_n 1, 1) := by decide +kernel
theorem dX0_pathOf_42 : decode cX0_pathOf 42 = .ok (.if_icmp .ne 30, 3) := by decide +kernel
theorem dX0_pathOf_45 : decode cX0_pathOf 45 = .ok (.iload 6, 2) := by decide +kernel
theorem dX0_pathOf_47 : decode cX0_pathOf 47 = .ok (.aload 8, 2) := by decide +kernel
theorem dX0_pathOf_49 : decode cX0_pathOf 49 = .ok (.lload_n 2, 1) := by decide +kernel
theorem dX0_pathOf_50 : decode cX0_pathOf 50 = .ok (.lload 4, 2) := by decide +kernel
theorem dX0_pathOf_52 : decode cX0_pathOf 52 = .ok (.invokevirtual 111, 3) := by decide +kernel
theorem dX0_pathOf_55 : decode cX0_pathOf 55 = .ok (.iadd, 1) := by decide +kernel
theorem dX0_pathOf_56 : decode cX0_pathOf 56 = .ok (.istore 6, 2) := by decide +kernel
theorem dX0_pathOf_58 : decode cX0_pathOf 58 = .ok (.aload 8, 2) := by decide +kernel
theorem dX0_pathOf_60 : decode cX0_pathOf 60 = .ok (.lload_n 2, 1) := by decide +kernel
theorem dX0_pathOf_61 : decode cX0_pathOf 61 = .ok (.lload 4, 2) := by decide +kernel
theorem dX0_pathOf_63 : decode cX0_pathOf 63 = .ok (.invokevirtual 115, 3) := by decide +kernel
theorem dX0_pathOf_66 : decode cX0_pathOf 66 = .ok (.ifCond .eq 6, 3) := by decide +kernel
theorem dX0_pathOf_69 : decode cX0_pathOf 69 = .ok (.iload 6, 2) := by decide +kernel
theorem dX0_pathOf_71 : decode cX0_pathOf 71 = .ok (.ireturn, 1) := by decide +kernel
theorem dX0_pathOf_72 : decode cX0_pathOf 72 = .ok (.iinc 7 1, 3) := by decide +kernel
theorem dX0_pathOf_75 : decode cX0_pathOf 75 = .ok (.goto (-65), 3) := by decide +kernel
theorem dX0_pathOf_78 : decode cX0_pathOf 78 = .ok (.iload 6, 2) := by decide +kernel
theorem dX0_pathOf_80 : decode cX0_pathOf 80 = .ok (.ireturn, 1) := by decide +kernel
theorem dX0_actionByTree_0 : decode cX0_actionByTree 0 = .ok (.aload_n 0, 1) := by decide +kernel
theorem dX0_actionByTree_1 : decode cX0_actionByTree 1 = .ok (.iload_n 1, 1) := by decide +kernel
theorem dX0_actionByTree_2 : decode cX0_actionByTree 2 = .ok (.invokevirtual 119, 3) := by decide +kernel
theorem dX0_actionByTree_5 : decode cX0_actionByTree 5 = .ok (.astore 6, 2) := by decide +kernel
theorem dX0_actionByTree_7 : decode cX0_actionByTree 7 = .ok (.aload 6, 2) := by decide +kernel
theorem dX0_actionByTree_9 : decode cX0_actionByTree 9 = .ok (.ifnull 12, 3) := by decide +kernel
theorem dX0_actionByTree_12 : decode cX0_actionByTree 12 = .ok (.aload 6, 2) := by decide +kernel
theorem dX0_actionByTree_14 : decode cX0_actionByTree 14 = .ok (.getfield 98, 3) := by decide +kernel
theorem dX0_actionByTree_17 : decode cX0_actionByTree 17 = .ok (.iload_n 1, 1) := by decide +kernel
theorem dX0_actionByTree_18 : decode cX0_actionByTree 18 = .ok (.if_icmp .eq 8, 3) := by decide +kernel
theorem dX0_actionByTree_21 : decode cX0_actionByTree 21 = .ok (.aload_n 0, 1) := by decide +kernel
theorem dX0_actionByTree_22 : decode cX0_actionByTree 22 = .ok (.getfield 123, 3) := by decide +kernel
theorem dX0_actionByTree_25 : decode cX0_actionByTree 25 = .ok (.ireturn, 1) := by decide +kernel
theorem dX0_actionByTree_26 : decode cX0_actionByTree 26 = .ok (.aload_n 0, 1) := by decide +kernel
theorem dX0_actionByTree_27 : decode cX0_actionByTree 27 = .ok (.aload_n 0, 1) := by decide +kernel
theorem dX0_actionByTree_28 : decode cX0_actionByTree 28 = .ok (.getfield 18, 3) := by decide +kernel
theorem dX0_actionByTree_31 : decode cX0_actionByTree 31 = .ok (.iload_n 1, 1) := by decide +kernel
theorem dX0_actionByTree_32 : decode cX0_actionByTree 32 = .ok (.lload_n 2, 1) := by decide +kernel
theorem dX0_actionByTree_33 : decode cX0_actionByTree 33 = .ok (.lload 4, 2) := by decide +kernel
theorem dX0_actionByTree_35 : decode cX0_actionByTree 35 = .ok (.invokevirtual 126, 3) := by decide +kernel
theorem dX0_actionByTree_38 : decode cX0_actionByTree 38 = .ok (.ireturn, 1) := by decide +kernel
theorem dX0_actionByRules_0 : decode cX0_actionByRules 0 = .ok (.aload_n 0, 1) := by decide +kernel
theorem dX0_actionByRules_1 : decode cX0_actionByRules 1 = .ok (.aload_n 0, 1) := by decide +kernel
theorem dX0_actionByRules_2 : decode cX0_actionByRules 2 = .ok (.getfield 12, 3) := by decide +kernel
theorem dX0_actionByRules_5 : decode cX0_actionByRules 5 = .ok (.iload_n 1, 1) := by decide +kernel
theorem dX0_actionByRules_6 : decode cX0_actionByRules 6 = .ok (.lload_n 2, 1) := by decide +kernel
theorem dX0_actionByRules_7 : decode cX0_actionByRules 7 = .ok (.lload 4, 2) := by decide +kernel
theorem dX0_actionByRules_9 : decode cX0_actionByRules 9 = .ok (.invokevirtual 126, 3) := by decide +kernel
theorem dX0_actionByRules_12 : decode cX0_actionByRules 12 = .ok (.ireturn, 1) := by decide +kernel
theorem dX0_actionOfFirstMatch_0 : decode cX0_actionOfFirstMatch 0 = .ok (.iconst 0, 1) := by decide +kernel
theorem dX0_actionOfFirstMatch_1 : decode cX0_actionOfFirstMatch 1 = .ok (.istore 7, 2) := by decide +kernel
theorem dX0_actionOfFirstMatch_3 : decode cX0_actionOfFirstMatch 3 = .ok (.iload 7, 2) := by decide +kernel
theorem dX0_actionOfFirstMatch_5 : decode cX0_actionOfFirstMatch 5 = .ok (.aload_n 1, 1) := by decide +kernel
theorem dX0_actionOfFirstMatch_6 : decode cX0_actionOfFirstMatch 6 = .ok (.invokevirtual 21, 3) := by decide +kernel
theorem dX0_actionOfFirstMatch_9 : decode cX0_actionOfFirstMatch 9 = .ok (.if_icmp .ge 46, 3) := by decide +kernel
theorem dX0_actionOfFirstMatch_12 : decode cX0_actionOfFirstMatch 12 = .ok (.aload_n 1, 1) := by decide +kernel
theorem dX0_actionOfFirstMatch_13 : decode cX0_actionOfFirstMatch 13 = .ok (.iload 7, 2) := by decide +kernel
theorem dX0_actionOfFirstMatch_15 : decode cX0_actionOfFirstMatch 15 = .ok (.invokevirtual 33, 3) := by decide +kernel
theorem dX0_actionOfFirstMatch_18 : decode cX0_actionOfFirstMatch 18 = .ok (.checkcast 36, 3) := by decide +kernel
theorem dX0_actionOfFirstMatch_21 : decode cX0_actionOfFirstMatch 21 = .ok (.astore 8, 2) := by decide +kernel
theorem dX0_actionOfFirstMatch_23 : decode cX0_actionOfFirstMatch 23 = .ok (.aload 8, 2) := by decide +kernel
theorem dX0_actionOfFirstMatch_25 : decode cX0_actionOfFirstMatch 25 = .ok (.getfield 87, 3) := by decide +kernel
theorem dX0_actionOfFirstMatch_28 : decode cX0_actionOfFirstMatch 28 = .ok (.iload_n 2, 1) := by decide +kernel
theorem dX0_actionOfFirstMatch_29 : decode cX0_actionOfFirstMatch 29 = .ok (.if_icmp .ne 20, 3) := by decide +kernel
theorem dX0_actionOfFirstMatch_32 : decode cX0_actionOfFirstMatch 32 = .ok (.aload 8, 2) := by decide +kernel
theorem dX0_actionOfFirstMatch_34 : decode cX0_actionOfFirstMatch 34 = .ok (.lload_n 3, 1) := by decide +kernel
theorem dX0_actionOfFirstMatch_35 : decode cX0_actionOfFirstMatch 35 = .ok (.lload 5, 2) := by decide +kernel
theorem dX0_actionOfFirstMatch_37 : decode cX0_actionOfFirstMatch 37 = .ok (.invokevirtual 115, 3) := by decide +kernel
theorem dX0_actionOfFirstMatch_40 : decode cX0_actionOfFirstMatch 40 = .ok (.ifCond .eq 9, 3) := by decide +kernel
theorem dX0_actionOfFirstMatch_43 : decode cX0_actionOfFirstMatch 43 = .ok (.aload 8, 2) := by decide +kernel
theorem dX0_actionOfFirstMatch_45 : decode cX0_actionOfFirstMatch 45 = .ok (.getfield 130, 3) := by decide +kernel
theorem dX0_actionOfFirstMatch_48 : decode cX0_actionOfFirstMatch 48 = .ok (.ireturn, 1) := by decide +kernel
theorem dX0_actionOfFirstMatch_49 : decode cX0_actionOfFirstMatch 49 = .ok (.iinc 7 1, 3) := by decide +kernel
theorem dX0_actionOfFirstMatch_52 : decode cX0_actionOfFirstMatch 52 = .ok (.goto (-49), 3) := by decide +kernel
theorem dX0_actionOfFirstMatch_55 : decode cX0_actionOfFirstMatch 55 = .ok (.aload_n 0, 1) := by decide +kernel
theorem dX0_actionOfFirstMatch_56 : decode cX0_actionOfFirstMatch 56 = .ok (.getfield 123, 3) := by decide +kernel
theorem dX0_actionOfFirstMatch_59 : decode cX0_actionOfFirstMatch 59 = .ok (.ireturn, 1) := by decide +kernel
theorem dX0_numberTests_0 : decode cX0_numberTests 0 = .ok (.aload_n 0, 1) := by decide +kernel
theorem dX0_numberTests_1 : decode cX0_numberTests 1 = .ok (.iload_n 1, 1) := by decide +kernel
theorem dX0_numberTests_2 : decode cX0_numberTests 2 = .ok (.invokevirtual 119, 3) := by decide +kernel
theorem dX0_numberTests_5 : decode cX0_numberTests 5 = .ok (.astore_n 2, 1) := by decide +kernel
theorem dX0_numberTests_6 : decode cX0_numberTests 6 = .ok (.aload_n 2, 1) := by decide +kernel
theorem dX0_numberTests_7 : decode cX0_numberTests 7 = .ok (.ifnonnull 7, 3) := by decide +kernel
theorem dX0_numberTests_10 : decode cX0_numberTests 10 = .ok (.iconst 0, 1) := by decide +kernel
theorem dX0_numberTests_11 : decode cX0_numberTests 11 = .ok (.goto 7, 3) := by decide +kernel
theorem dX0_numberTests_14 : decode cX0_numberTests 14 = .ok (.aload_n 2, 1) := by decide +kernel
theorem dX0_numberTests_15 : decode cX0_numberTests 15 = .ok (.getfield 133, 3) := by decide +kernel
theorem dX0_numberTests_18 : decode cX0_numberTests 18 = .ok (.ireturn, 1) := by decide +kernel
theorem dX0_mostRuleTests_0 : decode cX0_mostRuleTests 0 = .ok (.iconst 0, 1) := by decide +kernel
theorem dX0_mostRuleTests_1 : decode cX0_mostRuleTests 1 = .ok (.istore_n 2, 1) := by decide +kernel
theorem dX0_mostRuleTests_2 : decode cX0_mostRuleTests 2 = .ok (.iconst 0, 1) := by decide +kernel
theorem dX0_mostRuleTests_3 : decode cX0_mostRuleTests 3 = .ok (.istore_n 3, 1) := by decide +kernel
theorem dX0_mostRuleTests_4 : decode cX0_mostRuleTests 4 = .ok (.iload_n 3, 1) := by decide +kernel
theorem dX0_mostRuleTests_5 : decode cX0_mostRuleTests 5 = .ok (.aload_n 0, 1) := by decide +kernel
theorem dX0_mostRuleTests_6 : decode cX0_mostRuleTests 6 = .ok (.getfield 18, 3) := by decide +kernel
theorem dX0_mostRuleTests_9 : decode cX0_mostRuleTests 9 = .ok (.invokevirtual 21, 3) := by decide +kernel
theorem dX0_mostRuleTests_12 : decode cX0_mostRuleTests 12 = .ok (.if_icmp .ge 44, 3) := by decide +kernel
theorem dX0_mostRuleTests_15 : decode cX0_mostRuleTests 15 = .ok (.aload_n 0, 1) := by decide +kernel
theorem dX0_mostRuleTests_16 : decode cX0_mostRuleTests 16 = .ok (.getfield 18, 3) := by decide +kernel
theorem dX0_mostRuleTests_19 : decode cX0_mostRuleTests 19 = .ok (.iload_n 3, 1) := by decide +kernel
theorem dX0_mostRuleTests_20 : decode cX0_mostRuleTests 20 = .ok (.invokevirtual 33, 3) := by decide +kernel
theorem dX0_mostRuleTests_23 : decode cX0_mostRuleTests 23 = .ok (.checkcast 36, 3) := by decide +kernel
theorem dX0_mostRuleTests_26 : decode cX0_mostRuleTests 26 = .ok (.getfield 87, 3) := by decide +kernel
theorem dX0_mostRuleTests_29 : decode cX0_mostRuleTests 29 = .ok (.iload_n 1, 1) := by decide +kernel
theorem dX0_mostRuleTests_30 : decode cX0_mostRuleTests 30 = .ok (.if_icmp .ne 20, 3) := by decide +kernel
theorem dX0_mostRuleTests_33 : decode cX0_mostRuleTests 33 = .ok (.iload_n 2, 1) := by decide +kernel
theorem dX0_mostRuleTests_34 : decode cX0_mostRuleTests 34 = .ok (.aload_n 0, 1) := by decide +kernel
theorem dX0_mostRuleTests_35 : decode cX0_mostRuleTests 35 = .ok (.getfield 18, 3) := by decide +kernel
theorem dX0_mostRuleTests_38 : decode cX0_mostRuleTests 38 = .ok (.iload_n 3, 1) := by decide +kernel
theorem dX0_mostRuleTests_39 : decode cX0_mostRuleTests 39 = .ok (.invokevirtual 33, 3) := by decide +kernel
theorem dX0_mostRuleTests_42 : decode cX0_mostRuleTests 42 = .ok (.checkcast 36, 3) := by decide +kernel
theorem dX0_mostRuleTests_45 : decode cX0_mostRuleTests 45 = .ok (.invokevirtual 136, 3) := by decide +kernel
theorem dX0_mostRuleTests_48 : decode cX0_mostRuleTests 48 = .ok (.iadd, 1) := by decide +kernel
theorem dX0_mostRuleTests_49 : decode cX0_mostRuleTests 49 = .ok (.istore_n 2, 1) := by decide +kernel
theorem dX0_mostRuleTests_50 : decode cX0_mostRuleTests 50 = .ok (.iinc 3 1, 3) := by decide +kernel
theorem dX0_mostRuleTests_53 : decode cX0_mostRuleTests 53 = .ok (.goto (-49), 3) := by decide +kernel
theorem dX0_mostRuleTests_56 : decode cX0_mostRuleTests 56 = .ok (.iload_n 2, 1) := by decide +kernel
theorem dX0_mostRuleTests_57 : decode cX0_mostRuleTests 57 = .ok (.ireturn, 1) := by decide +kernel
theorem dX0_lastTest_0 : decode cX0_lastTest 0 = .ok (.aload_n 0, 1) := by decide +kernel
theorem dX0_lastTest_1 : decode cX0_lastTest 1 = .ok (.getfield 69, 3) := by decide +kernel
theorem dX0_lastTest_4 : decode cX0_lastTest 4 = .ok (.astore_n 2, 1) := by decide +kernel
theorem dX0_lastTest_5 : decode cX0_lastTest 5 = .ok (.aload_n 0, 1) := by decide +kernel
theorem dX0_lastTest_6 : decode cX0_lastTest 6 = .ok (.getfield 69, 3) := by decide +kernel
theorem dX0_lastTest_9 : decode cX0_lastTest 9 = .ok (.astore_n 3, 1) := by decide +kernel
theorem dX0_lastTest_10 : decode cX0_lastTest 10 = .ok (.aload_n 3, 1) := by decide +kernel
theorem dX0_lastTest_11 : decode cX0_lastTest 11 = .ok (.ifnull 14, 3) := by decide +kernel
theorem dX0_lastTest_14 : decode cX0_lastTest 14 = .ok (.aload_n 3, 1) := by decide +kernel
theorem dX0_lastTest_15 : decode cX0_lastTest 15 = .ok (.astore_n 2, 1) := by decide +kernel
theorem dX0_lastTest_16 : decode cX0_lastTest 16 = .ok (.aload_n 3, 1) := by decide +kernel
theorem dX0_lastTest_17 : decode cX0_lastTest 17 = .ok (.iload_n 1, 1) := by decide +kernel
theorem dX0_lastTest_18 : decode cX0_lastTest 18 = .ok (.invokevirtual 139, 3) := by decide +kernel
theorem dX0_lastTest_21 : decode cX0_lastTest 21 = .ok (.astore_n 3, 1) := by decide +kernel
theorem dX0_lastTest_22 : decode cX0_lastTest 22 = .ok (.goto (-12), 3) := by decide +kernel
theorem dX0_lastTest_25 : decode cX0_lastTest 25 = .ok (.aload_n 2, 1) := by decide +kernel
theorem dX0_lastTest_26 : decode cX0_lastTest 26 = .ok (.areturn, 1) := by decide +kernel
theorem dX1_init_0 : decode cX1_init 0 = .ok (.aload_n 0, 1) := by decide +kernel
theorem dX1_init_1 : decode cX1_init 1 = .ok (.invokespecial 1, 3) := by decide +kernel
theorem dX1_init_4 : decode cX1_init 4 = .ok (.aload_n 0, 1) := by decide +kernel
theorem dX1_init_5 : decode cX1_init 5 = .ok (.iload_n 1, 1) := by decide +kernel
theorem dX1_init_6 : decode cX1_init 6 = .ok (.putfield 7, 3) := by decide +kernel
theorem dX1_init_9 : decode cX1_init 9 = .ok (.aload_n 0, 1) := by decide +kernel
theorem dX1_init_10 : decode cX1_init 10 = .ok (.iload_n 2, 1) := by decide +kernel
theorem dX1_init_11 : decode cX1_init 11 = .ok (.putfield 13, 3) := by decide +kernel
theorem dX1_init_14 : decode cX1_init 14 = .ok (.aload_n 0, 1) := by decide +kernel
theorem dX1_init_15 : decode cX1_init 15 = .ok (.aload_n 3, 1) := by decide +kernel
theorem dX1_init_16 : decode cX1_init 16 = .ok (.putfield 16, 3) := by decide +kernel
theorem dX1_init_19 : decode cX1_init 19 = .ok (.aload_n 0, 1) := by decide +kernel
theorem dX1_init_20 : decode cX1_init 20 = .ok (.aload 4, 2) := by decide +kernel
theorem dX1_init_22 : decode cX1_init 22 = .ok (.putfield 20, 3) := by decide +kernel
theorem dX1_init_25 : decode cX1_init 25 = .ok (.return_, 1) := by decide +kernel
theorem dX1_towards_0 : decode cX1_towards 0 = .ok (.iload_n 1, 1) := by decide +kernel
theorem dX1_towards_1 : decode cX1_towards 1 = .ok (.aload_n 0, 1) := by decide +kernel
theorem dX1_towards_2 : decode cX1_towards 2 = .ok (.getfield 7, 3) := by decide +kernel
theorem dX1_towards_5 : decode cX1_towards 5 = .ok (.if_icmp .ne 5, 3) := by decide +kernel
theorem dX1_towards_8 : decode cX1_towards 8 = .ok (.aconst_null, 1) := by decide +kernel
theorem dX1_towards_9 : decode cX1_towards 9 = .ok (.areturn, 1) := by decide +kernel
theorem dX1_towards_10 : decode cX1_towards 10 = .ok (.iload_n 1, 1) := by decide +kernel
theorem dX1_towards_11 : decode cX1_towards 11 = .ok (.aload_n 0, 1) := by decide +kernel
theorem dX1_towards_12 : decode cX1_towards 12 = .ok (.getfield 7, 3) := by decide +kernel
theorem dX1_towards_15 : decode cX1_towards 15 = .ok (.if_icmp .ge 10, 3) := by decide +kernel
theorem dX1_towards_18 : decode cX1_towards 18 = .ok (.aload_n 0, 1) := by decide +kernel
theorem dX1_towards_19 : decode cX1_towards 19 = .ok (.getfield 16, 3) := by decide +kernel
theorem dX1_towards_22 : decode cX1_towards 22 = .ok (.goto 7, 3) := by decide +kernel
theorem dX1_towards_25 : decode cX1_towards 25 = .ok (.aload_n 0, 1) := by decide +kernel
theorem dX1_towards_26 : decode cX1_towards 26 = .ok (.getfield 20, 3) := by decide +kernel
theorem dX1_towards_29 : decode cX1_towards 29 = .ok (.areturn, 1) := by decide +kernel
theorem dX2_init_0 : decode cX2_init 0 = .ok (.aload_n 0, 1) := by decide +kernel
theorem dX2_init_1 : decode cX2_init 1 = .ok (.invokespecial 3, 3) := by decide +kernel
theorem dX2_init_4 : decode cX2_init 4 = .ok (.aload_n 0, 1) := by decide +kernel
theorem dX2_init_5 : decode cX2_init 5 = .ok (.bipush 10, 2) := by decide +kernel
theorem dX2_init_7 : decode cX2_init 7 = .ok (.newarray .int, 2) := by decide +kernel
theorem dX2_init_9 : decode cX2_init 9 = .ok (.putfield 9, 3) := by decide +kernel
theorem dX2_init_12 : decode cX2_init 12 = .ok (.aload_n 0, 1) := by decide +kernel
theorem dX2_init_13 : decode cX2_init 13 = .ok (.bipush 10, 2) := by decide +kernel
theorem dX2_init_15 : decode cX2_init 15 = .ok (.newarray .int, 2) := by decide +kernel
theorem dX2_init_17 : decode cX2_init 17 = .ok (.putfield 15, 3) := by decide +kernel
theorem dX2_init_20 : decode cX2_init 20 = .ok (.aload_n 0, 1) := by decide +kernel
theorem dX2_init_21 : decode cX2_init 21 = .ok (.bipush 11, 2) := by decide +kernel
theorem dX2_init_23 : decode cX2_init 23 = .ok (.bipush 11, 2) := by decide +kernel
theorem dX2_init_25 : decode cX2_init 25 = .ok (.multianewarray 18 2, 4) := by decide +kernel
theorem dX2_init_29 : decode cX2_init 29 = .ok (.putfield 20, 3) := by decide +kernel
theorem dX2_init_32 : decode cX2_init 32 = .ok (.aload_n 0, 1) := by decide +kernel
theorem dX2_init_33 : decode cX2_init 33 = .ok (.bipush 11, 2) := by decide +kernel
theorem dX2_init_35 : decode cX2_init 35 = .ok (.bipush 11, 2) := by decide +kernel
theorem dX2_init_37 : decode cX2_init 37 = .ok (.multianewarray 18 2, 4) := by decide +kernel
theorem dX2_init_41 : decode cX2_init 41 = .ok (.putfield 23, 3) := by decide +kernel
theorem dX2_init_44 : decode cX2_init 44 = .ok (.return_, 1) := by decide +kernel
theorem dX2_startAnew_0 : decode cX2_startAnew 0 = .ok (.aload_n 0, 1) := by decide +kernel
theorem dX2_startAnew_1 : decode cX2_startAnew 1 = .ok (.iconst 0, 1) := by decide +kernel
theorem dX2_startAnew_2 : decode cX2_startAnew 2 = .ok (.putfield 26, 3) := by decide +kernel
theorem dX2_startAnew_5 : decode cX2_startAnew 5 = .ok (.return_, 1) := by decide +kernel
theorem dX2_take_0 : decode cX2_take 0 = .ok (.aload_n 0, 1) := by decide +kernel
theorem dX2_take_1 : decode cX2_take 1 = .ok (.getfield 26, 3) := by decide +kernel
theorem dX2_take_4 : decode cX2_take 4 = .ok (.bipush 10, 2) := by decide +kernel
theorem dX2_take_6 : decode cX2_take 6 = .ok (.if_icmp .ge 33, 3) := by decide +kernel
theorem dX2_take_9 : decode cX2_take 9 = .ok (.aload_n 0, 1) := by decide +kernel
theorem dX2_take_10 : decode cX2_take 10 = .ok (.getfield 9, 3) := by decide +kernel
theorem dX2_take_13 : decode cX2_take 13 = .ok (.aload_n 0, 1) := by decide +kernel
theorem dX2_take_14 : decode cX2_take 14 = .ok (.getfield 26, 3) := by decide +kernel
theorem dX2_take_17 : decode cX2_take 17 = .ok (.iload_n 1, 1) := by decide +kernel
theorem dX2_take_18 : decode cX2_take 18 = .ok (.iastore, 1) := by decide +kernel
theorem dX2_take_19 : decode cX2_take 19 = .ok (.aload_n 0, 1) := by decide +kernel
theorem dX2_take_20 : decode cX2_take 20 = .ok (.getfield 15, 3) := by decide +kernel
theorem dX2_take_23 : decode cX2_take 23 = .ok (.aload_n 0, 1) := by decide +kernel
theorem dX2_take_24 : decode cX2_take 24 = .ok (.getfield 26, 3) := by decide +kernel
theorem dX2_take_27 : decode cX2_take 27 = .ok (.iload_n 2, 1) := by decide +kernel
theorem dX2_take_28 : decode cX2_take 28 = .ok (.iastore, 1) := by decide +kernel
theorem dX2_take_29 : decode cX2_take 29 = .ok (.aload_n 0, 1) := by decide +kernel
theorem dX2_take_30 : decode cX2_take 30 = .ok (.dup, 1) := by decide +kernel
theorem dX2_take_31 : decode cX2_take 31 = .ok (.getfield 26, 3) := by decide +kernel
theorem dX2_take_34 : decode cX2_take 34 = .ok (.iconst 1, 1) := by decide +kernel
theorem dX2_take_35 : decode cX2_take 35 = .ok (.iadd, 1) := by decide +kernel
theorem dX2_take_36 : decode cX2_take 36 = .ok (.putfield 26, 3) := by decide +kernel
theorem dX2_take_39 : decode cX2_take 39 = .ok (.return_, 1) := by decide +kernel
theorem dX2_weighAllTrees_0 : decode cX2_weighAllTrees 0 = .ok (.iconst 1, 1) := by decide +kernel
theorem dX2_weighAllTrees_1 : decode cX2_weighAllTrees 1 = .ok (.istore_n 1, 1) := by decide +kernel
theorem dX2_weighAllTrees_2 : decode cX2_weighAllTrees 2 = .ok (.iload_n 1, 1) := by decide +kernel
theorem dX2_weighAllTrees_3 : decode cX2_weighAllTrees 3 = .ok (.aload_n 0, 1) := by decide +kernel
theorem dX2_weighAllTrees_4 : decode cX2_weighAllTrees 4 = .ok (.getfield 26, 3) := by decide +kernel
theorem dX2_weighAllTrees_7 : decode cX2_weighAllTrees 7 = .ok (.if_icmp .gt 35, 3) := by decide +kernel
theorem dX2_weighAllTrees_10 : decode cX2_weighAllTrees 10 = .ok (.iconst 0, 1) := by decide +kernel
theorem dX2_weighAllTrees_11 : decode cX2_weighAllTrees 11 = .ok (.istore_n 2, 1) := by decide +kernel
theorem dX2_weighAllTrees_12 : decode cX2_weighAllTrees 12 = .ok (.iload_n 2, 1) := by decide +kernel
theorem dX2_weighAllTrees_13 : decode cX2_weighAllTrees 13 = .ok (.iload_n 1, 1) := by decide +kernel
theorem dX2_weighAllTrees_14 : decode cX2_weighAllTrees 14 = .ok (.iadd, 1) := by decide +kernel
theorem dX2_weighAllTrees_15 : decode cX2_weighAllTrees 15 = .ok (.aload_n 0, 1) := by decide +kernel
theorem dX2_weighAllTrees_16 : decode cX2_weighAllTrees 16 = .ok (.getfield 26, 3) := by decide +kernel
theorem dX2_weighAllTrees_19 : decode cX2_weighAllTrees 19 = .ok (.if_icmp .gt 17, 3) := by decide +kernel
theorem dX2_weighAllTrees_22 : decode cX2_weighAllTrees 22 = .ok (.aload_n 0, 1) := by decide +kernel
theorem dX2_weighAllTrees_23 : decode cX2_weighAllTrees 23 = .ok (.iload_n 2, 1) := by decide +kernel
theorem dX2_weighAllTrees_24 : decode cX2_weighAllTrees 24 = .ok (.iload_n 2, 1) := by decide +kernel
theorem dX2_weighAllTrees_25 : decode cX2_weighAllTrees 25 = .ok (.iload_n 1, 1) := by decide +kernel
theorem dX2_weighAllTrees_26 : decode cX2_weighAllTrees 26 = .ok (.iadd, 1) := by decide +kernel
theorem dX2_weighAllTrees_27 : decode cX2_weighAllTrees 27 = .ok (.invokevirtual 30, 3) := by decide +kernel
theorem dX2_weighAllTrees_30 : decode cX2_weighAllTrees 30 = .ok (.iinc 2 1, 3) := by decide +kernel
theorem dX2_weighAllTrees_33 : decode cX2_weighAllTrees 33 = .ok (.goto (-21), 3) := by decide +kernel
theorem dX2_weighAllTrees_36 : decode cX2_weighAllTrees 36 = .ok (.iinc 1 1, 3) := by decide +kernel
theorem dX2_weighAllTrees_39 : decode cX2_weighAllTrees 39 = .ok (.goto (-37), 3) := by decide +kernel
theorem dX2_weighAllTrees_42 : decode cX2_weighAllTrees 42 = .ok (.return_, 1) := by decide +kernel
theorem dX2_weighTrees_0 : decode cX2_weighTrees 0 = .ok (.iload_n 1, 1) := by decide +kernel
theorem dX2_weighTrees_1 : decode cX2_weighTrees 1 = .ok (.istore_n 3, 1) := by decide +kernel
theorem dX2_weighTrees_2 : decode cX2_weighTrees 2 = .ok (.iload_n 1, 1) := by decide +kernel
theorem dX2_weighTrees_3 : decode cX2_weighTrees 3 = .ok (.iconst 1, 1) := by decide +kernel
theorem dX2_weighTrees_4 : decode cX2_weighTrees 4 = .ok (.iadd, 1) := by decide +kernel
theorem dX2_weighTrees_5 : decode cX2_weighTrees 5 = .ok (.istore 4, 2) := by decide +kernel
theorem dX2_weighTrees_7 : decode cX2_weighTrees 7 = .ok (.iload 4, 2) := by decide +kernel
theorem dX2_weighTrees_9 : decode cX2_weighTrees 9 = .ok (.iload_n 2, 1) := by decide +kernel
theorem dX2_weighTrees_10 : decode cX2_weighTrees 10 = .ok (.if_icmp .ge 30, 3) := by decide +kernel
theorem dX2_weighTrees_13 : decode cX2_weighTrees 13 = .ok (.aload_n 0, 1) := by decide +kernel
theorem dX2_weighTrees_14 : decode cX2_weighTrees 14 = .ok (.iload_n 1, 1) := by decide +kernel
theorem dX2_weighTrees_15 : decode cX2_weighTrees 15 = .ok (.iload_n 2, 1) := by decide +kernel
theorem dX2_weighTrees_16 : decode cX2_weighTrees 16 = .ok (.iload 4, 2) := by decide +kernel
theorem dX2_weighTrees_18 : decode cX2_weighTrees 18 = .ok (.invokevirtual 34, 3) := by decide +kernel
theorem dX2_weighTrees_21 : decode cX2_weighTrees 21 = .ok (.aload_n 0, 1) := by decide +kernel
theorem dX2_weighTrees_22 : decode cX2_weighTrees 22 = .ok (.iload_n 1, 1) := by decide +kernel
theorem dX2_weighTrees_23 : decode cX2_weighTrees 23 = .ok (.iload_n 2, 1) := by decide +kernel
theorem dX2_weighTrees_24 : decode cX2_weighTrees 24 = .ok (.iload_n 3, 1) := by decide +kernel
theorem dX2_weighTrees_25 : decode cX2_weighTrees 25 = .ok (.invokevirtual 34, 3) := by decide +kernel
theorem dX2_weighTrees_28 : decode cX2_weighTrees 28 = .ok (.if_icmp .ge 6, 3) := by decide +kernel
theorem dX2_weighTrees_31 : decode cX2_weighTrees 31 = .ok (.iload 4, 2) := by decide +kernel
theorem dX2_weighTrees_33 : decode cX2_weighTrees 33 = .ok (.istore_n 3, 1) := by decide +kernel
theorem dX2_weighTrees_34 : decode cX2_weighTrees 34 = .ok (.iinc 4 1, 3) := by decide +kernel
theorem dX2_weighTrees_37 : decode cX2_weighTrees 37 = .ok (.goto (-30), 3) := by decide +kernel
theorem dX2_weighTrees_40 : decode cX2_weighTrees 40 = .ok (.aload_n 0, 1) := by decide +kernel
theorem dX2_weighTrees_41 : decode cX2_weighTrees 41 = .ok (.getfield 23, 3) := by decide +kernel
theorem dX2_weighTrees_44 : decode cX2_weighTrees 44 = .ok (.iload_n 1, 1) := by decide +kernel
theorem dX2_weighTrees_45 : decode cX2_weighTrees 45 = .ok (.aaload, 1) := by decide +kernel
theorem dX2_weighTrees_46 : decode cX2_weighTrees 46 = .ok (.iload_n 2, 1) := by decide +kernel
theorem dX2_weighTrees_47 : decode cX2_weighTrees 47 = .ok (.iload_n 3, 1) := by decide +kernel
theorem dX2_weighTrees_48 : decode cX2_weighTrees 48 = .ok (.iastore, 1) := by decide +kernel
theorem dX2_weighTrees_49 : decode cX2_weighTrees 49 = .ok (.aload_n 0, 1) := by decide +kernel
theorem dX2_weighTrees_50 : decode cX2_weighTrees 50 = .ok (.getfield 20, 3) := by decide +kernel
theorem dX2_weighTrees_53 : decode cX2_weighTrees 53 = .ok (.iload_n 1, 1) := by decide +kernel
theorem dX2_weighTrees_54 : decode cX2_weighTrees 54 = .ok (.aaload, 1) := by decide +kernel
theorem dX2_weighTrees_55 : decode cX2_weighTrees 55 = .ok (.iload_n 2, 1) := by decide +kernel
theorem dX2_weighTrees_56 : decode cX2_weighTrees 56 = .ok (.aload_n 0, 1) := by decide +kernel
theorem dX2_weighTrees_57 : decode cX2_weighTrees 57 = .ok (.iload_n 1, 1) := by decide +kernel
theorem dX2_weighTrees_58 : decode cX2_weighTrees 58 = .ok (.iload_n 2, 1) := by decide +kernel
theorem dX2_weighTrees_59 : decode cX2_weighTrees 59 = .ok (.iload_n 3, 1) := by decide +kernel
theorem dX2_weighTrees_60 : decode cX2_weighTrees 60 = .ok (.invokevirtual 34, 3) := by decide +kernel
theorem dX2_weighTrees_63 : decode cX2_weighTrees 63 = .ok (.aload_n 0, 1) := by decide +kernel
theorem dX2_weighTrees_64 : decode cX2_weighTrees 64 = .ok (.iload_n 1, 1) := by decide +kernel
theorem dX2_weighTrees_65 : decode cX2_weighTrees 65 = .ok (.iload_n 2, 1) := by decide +kernel
theorem dX2_weighTrees_66 : decode cX2_weighTrees 66 = .ok (.invokevirtual 38, 3) := by decide +kernel
theorem dX2_weighTrees_69 : decode cX2_weighTrees 69 = .ok (.iadd, 1) := by decide +kernel
theorem dX2_weighTrees_70 : decode cX2_weighTrees 70 = .ok (.iastore, 1) := by decide +kernel
theorem dX2_weighTrees_71 : decode cX2_weighTrees 71 = .ok (.return_, 1) := by decide +kernel
theorem dX2_costBelow_0 : decode cX2_costBelow 0 = .ok (.aload_n 0, 1) := by decide +kernel
theorem dX2_costBelow_1 : decode cX2_costBelow 1 = .ok (.getfield 20, 3) := by decide +kernel
theorem dX2_costBelow_4 : decode cX2_costBelow 4 = .ok (.iload_n 1, 1) := by decide +kernel
theorem dX2_costBelow_5 : decode cX2_costBelow 5 = .ok (.aaload, 1) := by decide +kernel
theorem dX2_costBelow_6 : decode cX2_costBelow 6 = .ok (.iload_n 3, 1) := by decide +kernel
theorem dX2_costBelow_7 : decode cX2_costBelow 7 = .ok (.iaload, 1) := by decide +kernel
theorem dX2_costBelow_8 : decode cX2_costBelow 8 = .ok (.aload_n 0, 1) := by decide +kernel
theorem dX2_costBelow_9 : decode cX2_costBelow 9 = .ok (.getfield 20, 3) := by decide +kernel
theorem dX2_costBelow_12 : decode cX2_costBelow 12 = .ok (.iload_n 3, 1) := by decide +kernel
theorem dX2_costBelow_13 : decode cX2_costBelow 13 = .ok (.iconst 1, 1) := by decide +kernel
theorem dX2_costBelow_14 : decode cX2_costBelow 14 = .ok (.iadd, 1) := by decide +kernel
theorem dX2_costBelow_15 : decode cX2_costBelow 15 = .ok (.aaload, 1) := by decide +kernel
theorem dX2_costBelow_16 : decode cX2_costBelow 16 = .ok (.iload_n 2, 1) := by decide +kernel
theorem dX2_costBelow_17 : decode cX2_costBelow 17 = .ok (.iaload, 1) := by decide +kernel
theorem dX2_costBelow_18 : decode cX2_costBelow 18 = .ok (.iadd, 1) := by decide +kernel
theorem dX2_costBelow_19 : decode cX2_costBelow 19 = .ok (.ireturn, 1) := by decide +kernel
theorem dX2_weightOf_0 : decode cX2_weightOf 0 = .ok (.iconst 0, 1) := by decide +kernel
theorem dX2_weightOf_1 : decode cX2_weightOf 1 = .ok (.istore_n 3, 1) := by decide +kernel
theorem dX2_weightOf_2 : decode cX2_weightOf 2 = .ok (.iload_n 1, 1) := by decide +kernel
theorem dX2_weightOf_3 : decode cX2_weightOf 3 = .ok (.istore 4, 2) := by decide +kernel
theorem dX2_weightOf_5 : decode cX2_weightOf 5 = .ok (.iload 4, 2) := by decide +kernel
theorem dX2_weightOf_7 : decode cX2_weightOf 7 = .ok (.iload_n 2, 1) := by decide +kernel
theorem dX2_weightOf_8 : decode cX2_weightOf 8 = .ok (.if_icmp .ge 19, 3) := by decide +kernel
theorem dX2_weightOf_11 : decode cX2_weightOf 11 = .ok (.iload_n 3, 1) := by decide +kernel
theorem dX2_weightOf_12 : decode cX2_weightOf 12 = .ok (.aload_n 0, 1) := by decide +kernel
theorem dX2_weightOf_13 : decode cX2_weightOf 13 = .ok (.getfield 15, 3) := by decide +kernel
theorem dX2_weightOf_16 : decode cX2_weightOf 16 = .ok (.iload 4, 2) := by decide +kernel
theorem dX2_weightOf_18 : decode cX2_weightOf 18 = .ok (.iaload, 1) := by decide +kernel
theorem dX2_weightOf_19 : decode cX2_weightOf 19 = .ok (.iadd, 1) := by decide +kernel
theorem dX2_weightOf_20 : decode cX2_weightOf 20 = .ok (.istore_n 3, 1) := by decide +kernel
theorem dX2_weightOf_21 : decode cX2_weightOf 21 = .ok (.iinc 4 1, 3) := by decide +kernel
theorem dX2_weightOf_24 : decode cX2_weightOf 24 = .ok (.goto (-19), 3) := by decide +kernel
theorem dX2_weightOf_27 : decode cX2_weightOf 27 = .ok (.iload_n 3, 1) := by decide +kernel
theorem dX2_weightOf_28 : decode cX2_weightOf 28 = .ok (.ireturn, 1) := by decide +kernel
theorem dX2_leastCost_0 : decode cX2_leastCost 0 = .ok (.aload_n 0, 1) := by decide +kernel
theorem dX2_leastCost_1 : decode cX2_leastCost 1 = .ok (.getfield 20, 3) := by decide +kernel
theorem dX2_leastCost_4 : decode cX2_leastCost 4 = .ok (.iconst 0, 1) := by decide +kernel
theorem dX2_leastCost_5 : decode cX2_leastCost 5 = .ok (.aaload, 1) := by decide +kernel
theorem dX2_leastCost_6 : decode cX2_leastCost 6 = .ok (.aload_n 0, 1) := by decide +kernel
theorem dX2_leastCost_7 : decode cX2_leastCost 7 = .ok (.getfield 26, 3) := by decide +kernel
theorem dX2_leastCost_10 : decode cX2_leastCost 10 = .ok (.iaload, 1) := by decide +kernel
theorem dX2_leastCost_11 : decode cX2_leastCost 11 = .ok (.ireturn, 1) := by decide +kernel
theorem dX2_bestTree_0 : decode cX2_bestTree 0 = .ok (.aload_n 0, 1) := by decide +kernel
theorem dX2_bestTree_1 : decode cX2_bestTree 1 = .ok (.iconst 0, 1) := by decide +kernel
theorem dX2_bestTree_2 : decode cX2_bestTree 2 = .ok (.aload_n 0, 1) := by decide +kernel
theorem dX2_bestTree_3 : decode cX2_bestTree 3 = .ok (.getfield 26, 3) := by decide +kernel
theorem dX2_bestTree_6 : decode cX2_bestTree 6 = .ok (.iconst 1, 1) := by decide +kernel
theorem dX2_bestTree_7 : decode cX2_bestTree 7 = .ok (.invokestatic 42, 3) := by decide +kernel
theorem dX2_bestTree_10 : decode cX2_bestTree 10 = .ok (.areturn, 1) := by decide +kernel
theorem dX2_grow_0 : decode cX2_grow 0 = .ok (.iload_n 1, 1) := by decide +kernel
theorem dX2_grow_1 : decode cX2_grow 1 = .ok (.iload_n 2, 1) := by decide +kernel
theorem dX2_grow_2 : decode cX2_grow 2 = .ok (.if_icmp .ge 9, 3) := by decide +kernel
theorem dX2_grow_5 : decode cX2_grow 5 = .ok (.iload_n 3, 1) := by decide +kernel
theorem dX2_grow_6 : decode cX2_grow 6 = .ok (.bipush 10, 2) := by decide +kernel
theorem dX2_grow_8 : decode cX2_grow 8 = .ok (.if_icmp .le 5, 3) := by decide +kernel
theorem dX2_grow_11 : decode cX2_grow 11 = .ok (.aconst_null, 1) := by decide +kernel
theorem dX2_grow_12 : decode cX2_grow 12 = .ok (.areturn, 1) := by decide +kernel
theorem dX2_grow_13 : decode cX2_grow 13 = .ok (.aload_n 0, 1) := by decide +kernel
theorem dX2_grow_14 : decode cX2_grow 14 = .ok (.getfield 23, 3) := by decide +kernel
theorem dX2_grow_17 : decode cX2_grow 17 = .ok (.iload_n 1, 1) := by decide +kernel
theorem dX2_grow_18 : decode cX2_grow 18 = .ok (.aaload, 1) := by decide +kernel
theorem dX2_grow_19 : decode cX2_grow 19 = .ok (.iload_n 2, 1) := by decide +kernel
theorem dX2_grow_20 : decode cX2_grow 20 = .ok (.iaload, 1) := by decide +kernel
theorem dX2_grow_21 : decode cX2_grow 21 = .ok (.istore 4, 2) := by decide +kernel
theorem dX2_grow_23 : decode cX2_grow 23 = .ok (.new 46, 3) := by decide +kernel
theorem dX2_grow_26 : decode cX2_grow 26 = .ok (.dup, 1) := by decide +kernel
theorem dX2_grow_27 : decode cX2_grow 27 = .ok (.aload_n 0, 1) := by decide +kernel
theorem dX2_grow_28 : decode cX2_grow 28 = .ok (.getfield 9, 3) := by decide +kernel
theorem dX2_grow_31 : decode cX2_grow 31 = .ok (.iload 4, 2) := by decide +kernel
theorem dX2_grow_33 : decode cX2_grow 33 = .ok (.iaload, 1) := by decide +kernel
theorem dX2_grow_34 : decode cX2_grow 34 = .ok (.iload_n 3, 1) := by decide +kernel
theorem dX2_grow_35 : decode cX2_grow 35 = .ok (.aload_n 0, 1) := by decide +kernel
theorem dX2_grow_36 : decode cX2_grow 36 = .ok (.iload_n 1, 1) := by decide +kernel
theorem dX2_grow_37 : decode cX2_grow 37 = .ok (.iload 4, 2) := by decide +kernel
theorem dX2_grow_39 : decode cX2_grow 39 = .ok (.iload_n 3, 1) := by decide +kernel
theorem dX2_grow_40 : decode cX2_grow 40 = .ok (.iconst 1, 1) := by decide +kernel
theorem dX2_grow_41 : decode cX2_grow 41 = .ok (.iadd, 1) := by decide +kernel
theorem dX2_grow_42 : decode cX2_grow 42 = .ok (.invokestatic 42, 3) := by decide +kernel
theorem dX2_grow_45 : decode cX2_grow 45 = .ok (.aload_n 0, 1) := by decide +kernel
theorem dX2_grow_46 : decode cX2_grow 46 = .ok (.iload 4, 2) := by decide +kernel
theorem dX2_grow_48 : decode cX2_grow 48 = .ok (.iconst 1, 1) := by decide +kernel
theorem dX2_grow_49 : decode cX2_grow 49 = .ok (.iadd, 1) := by decide +kernel
theorem dX2_grow_50 : decode cX2_grow 50 = .ok (.iload_n 2, 1) := by decide +kernel
theorem dX2_grow_51 : decode cX2_grow 51 = .ok (.iload_n 3, 1) := by decide +kernel
theorem dX2_grow_52 : decode cX2_grow 52 = .ok (.iconst 1, 1) := by decide +kernel
theorem dX2_grow_53 : decode cX2_grow 53 = .ok (.iadd, 1) := by decide +kernel
theorem dX2_grow_54 : decode cX2_grow 54 = .ok (.invokestatic 42, 3) := by decide +kernel
theorem dX2_grow_57 : decode cX2_grow 57 = .ok (.invokespecial 48, 3) := by decide +kernel
theorem dX2_grow_60 : decode cX2_grow 60 = .ok (.areturn, 1) := by decide +kernel
theorem dX3_init_0 : decode cX3_init 0 = .ok (.aload_n 0, 1) := by decide +kernel
theorem dX3_init_1 : decode cX3_init 1 = .ok (.invokespecial 3, 3) := by decide +kernel
theorem dX3_init_4 : decode cX3_init 4 = .ok (.aload_n 0, 1) := by decide +kernel
theorem dX3_init_5 : decode cX3_init 5 = .ok (.iload_n 1, 1) := by decide +kernel
theorem dX3_init_6 : decode cX3_init 6 = .ok (.putfield 9, 3) := by decide +kernel
theorem dX3_init_9 : decode cX3_init 9 = .ok (.aload_n 0, 1) := by decide +kernel
theorem dX3_init_10 : decode cX3_init 10 = .ok (.iload_n 2, 1) := by decide +kernel
theorem dX3_init_11 : decode cX3_init 11 = .ok (.putfield 15, 3) := by decide +kernel
theorem dX3_init_14 : decode cX3_init 14 = .ok (.aload_n 0, 1) := by decide +kernel
theorem dX3_init_15 : decode cX3_init 15 = .ok (.lload_n 3, 1) := by decide +kernel
theorem dX3_init_16 : decode cX3_init 16 = .ok (.putfield 18, 3) := by decide +kernel
theorem dX3_init_19 : decode cX3_init 19 = .ok (.aload_n 0, 1) := by decide +kernel
theorem dX3_init_20 : decode cX3_init 20 = .ok (.lload 5, 2) := by decide +kernel
theorem dX3_init_22 : decode cX3_init 22 = .ok (.putfield 22, 3) := by decide +kernel
theorem dX3_init_25 : decode cX3_init 25 = .ok (.aload_n 0, 1) := by decide +kernel
theorem dX3_init_26 : decode cX3_init 26 = .ok (.iload 7, 2) := by decide +kernel
theorem dX3_init_28 : decode cX3_init 28 = .ok (.putfield 25, 3) := by decide +kernel
theorem dX3_init_31 : decode cX3_init 31 = .ok (.return_, 1) := by decide +kernel
theorem dX3_matches_0 : decode cX3_matches 0 = .ok (.aload_n 0, 1) := by decide +kernel
theorem dX3_matches_1 : decode cX3_matches 1 = .ok (.lload_n 1, 1) := by decide +kernel
theorem dX3_matches_2 : decode cX3_matches 2 = .ok (.lload_n 3, 1) := by decide +kernel
theorem dX3_matches_3 : decode cX3_matches 3 = .ok (.invokevirtual 28, 3) := by decide +kernel
theorem dX3_matches_6 : decode cX3_matches 6 = .ok (.aload_n 0, 1) := by decide +kernel
theorem dX3_matches_7 : decode cX3_matches 7 = .ok (.getfield 18, 3) := by decide +kernel
theorem dX3_matches_10 : decode cX3_matches 10 = .ok (.land, 1) := by decide +kernel
theorem dX3_matches_11 : decode cX3_matches 11 = .ok (.aload_n 0, 1) := by decide +kernel
theorem dX3_matches_12 : decode cX3_matches 12 = .ok (.getfield 22, 3) := by decide +kernel
theorem dX3_matches_15 : decode cX3_matches 15 = .ok (.lcmp, 1) := by decide +kernel
theorem dX3_matches_16 : decode cX3_matches 16 = .ok (.ifCond .ne 7, 3) := by decide +kernel
theorem dX3_matches_19 : decode cX3_matches 19 = .ok (.iconst 1, 1) := by decide +kernel
theorem dX3_matches_20 : decode cX3_matches 20 = .ok (.goto 4, 3) := by decide +kernel
theorem dX3_matches_23 : decode cX3_matches 23 = .ok (.iconst 0, 1) := by decide +kernel
theorem dX3_matches_24 : decode cX3_matches 24 = .ok (.ireturn, 1) := by decide +kernel
theorem dX3_canNeverMatch_0 : decode cX3_canNeverMatch 0 = .ok (.aload_n 0, 1) := by decide +kernel
theorem dX3_canNeverMatch_1 : decode cX3_canNeverMatch 1 = .ok (.getfield 22, 3) := by decide +kernel
theorem dX3_canNeverMatch_4 : decode cX3_canNeverMatch 4 = .ok (.aload_n 0, 1) := by decide +kernel
theorem dX3_canNeverMatch_5 : decode cX3_canNeverMatch 5 = .ok (.getfield 18, 3) := by decide +kernel
theorem dX3_canNeverMatch_8 : decode cX3_canNeverMatch 8 = .ok (.ldc2_w 32, 3) := by decide +kernel
theorem dX3_canNeverMatch_11 : decode cX3_canNeverMatch 11 = .ok (.lxor, 1) := by decide +kernel
theorem dX3_canNeverMatch_12 : decode cX3_canNeverMatch 12 = .ok (.land, 1) := by decide +kernel
theorem dX3_canNeverMatch_13 : decode cX3_canNeverMatch 13 = .ok (.lconst 0, 1) := by decide +kernel
theorem dX3_canNeverMatch_14 : decode cX3_canNeverMatch 14 = .ok (.lcmp, 1) := by decide +kernel
theorem dX3_canNeverMatch_15 : decode cX3_canNeverMatch 15 = .ok (.ifCond .eq 7, 3) := by decide +kernel
theorem dX3_canNeverMatch_18 : decode cX3_canNeverMatch 18 = .ok (.iconst 1, 1) := by decide +kernel
theorem dX3_canNeverMatch_19 : decode cX3_canNeverMatch 19 = .ok (.goto 4, 3) := by decide +kernel
theorem dX3_canNeverMatch_22 : decode cX3_canNeverMatch 22 = .ok (.iconst 0, 1) := by decide +kernel
theorem dX3_canNeverMatch_23 : decode cX3_canNeverMatch 23 = .ok (.ireturn, 1) := by decide +kernel
theorem dX3_covers_0 : decode cX3_covers 0 = .ok (.aload_n 0, 1) := by decide +kernel
theorem dX3_covers_1 : decode cX3_covers 1 = .ok (.getfield 9, 3) := by decide +kernel
theorem dX3_covers_4 : decode cX3_covers 4 = .ok (.aload_n 1, 1) := by decide +kernel
theorem dX3_covers_5 : decode cX3_covers 5 = .ok (.getfield 9, 3) := by decide +kernel
theorem dX3_covers_8 : decode cX3_covers 8 = .ok (.if_icmp .eq 5, 3) := by decide +kernel
theorem dX3_covers_11 : decode cX3_covers 11 = .ok (.iconst 0, 1) := by decide +kernel
theorem dX3_covers_12 : decode cX3_covers 12 = .ok (.ireturn, 1) := by decide +kernel
theorem dX3_covers_13 : decode cX3_covers 13 = .ok (.aload_n 0, 1) := by decide +kernel
theorem dX3_covers_14 : decode cX3_covers 14 = .ok (.getfield 18, 3) := by decide +kernel
theorem dX3_covers_17 : decode cX3_covers 17 = .ok (.lconst 0, 1) := by decide +kernel
theorem dX3_covers_18 : decode cX3_covers 18 = .ok (.lcmp, 1) := by decide +kernel
theorem dX3_covers_19 : decode cX3_covers 19 = .ok (.ifCond .ne 14, 3) := by decide +kernel
theorem dX3_covers_22 : decode cX3_covers 22 = .ok (.aload_n 0, 1) := by decide +kernel
theorem dX3_covers_23 : decode cX3_covers 23 = .ok (.getfield 22, 3) := by decide +kernel
theorem dX3_covers_26 : decode cX3_covers 26 = .ok (.lconst 0, 1) := by decide +kernel
theorem dX3_covers_27 : decode cX3_covers 27 = .ok (.lcmp, 1) := by decide +kernel
theorem dX3_covers_28 : decode cX3_covers 28 = .ok (.ifCond .ne 5, 3) := by decide +kernel
theorem dX3_covers_31 : decode cX3_covers 31 = .ok (.iconst 1, 1) := by decide +kernel
theorem dX3_covers_32 : decode cX3_covers 32 = .ok (.ireturn, 1) := by decide +kernel
theorem dX3_covers_33 : decode cX3_covers 33 = .ok (.aload_n 0, 1) := by decide +kernel
theorem dX3_covers_34 : decode cX3_covers 34 = .ok (.getfield 15, 3) := by decide +kernel
theorem dX3_covers_37 : decode cX3_covers 37 = .ok (.aload_n 1, 1) := by decide +kernel
theorem dX3_covers_38 : decode cX3_covers 38 = .ok (.getfield 15, 3) := by decide +kernel
theorem dX3_covers_41 : decode cX3_covers 41 = .ok (.if_icmp .ne 42, 3) := by decide +kernel
theorem dX3_covers_44 : decode cX3_covers 44 = .ok (.aload_n 0, 1) := by decide +kernel
theorem dX3_covers_45 : decode cX3_covers 45 = .ok (.getfield 18, 3) := by decide +kernel
theorem dX3_covers_48 : decode cX3_covers 48 = .ok (.aload_n 1, 1) := by decide +kernel
theorem dX3_covers_49 : decode cX3_covers 49 = .ok (.getfield 18, 3) := by decide +kernel
theorem dX3_covers_52 : decode cX3_covers 52 = .ok (.ldc2_w 32, 3) := by decide +kernel
theorem dX3_covers_55 : decode cX3_covers 55 = .ok (.lxor, 1) := by decide +kernel
theorem dX3_covers_56 : decode cX3_covers 56 = .ok (.land, 1) := by decide +kernel
theorem dX3_covers_57 : decode cX3_covers 57 = .ok (.lconst 0, 1) := by decide +kernel
theorem dX3_covers_58 : decode cX3_covers 58 = .ok (.lcmp, 1) := by decide +kernel
theorem dX3_covers_59 : decode cX3_covers 59 = .ok (.ifCond .ne 24, 3) := by decide +kernel
theorem dX3_covers_62 : decode cX3_covers 62 = .ok (.aload_n 1, 1) := by decide +kernel
theorem dX3_covers_63 : decode cX3_covers 63 = .ok (.getfield 22, 3) := by decide +kernel
theorem dX3_covers_66 : decode cX3_covers 66 = .ok (.aload_n 0, 1) := by decide +kernel
theorem dX3_covers_67 : decode cX3_covers 67 = .ok (.getfield 18, 3) := by decide +kernel
theorem dX3_covers_70 : decode cX3_covers 70 = .ok (.land, 1) := by decide +kernel
theorem dX3_covers_71 : decode cX3_covers 71 = .ok (.aload_n 0, 1) := by decide +kernel
theorem dX3_covers_72 : decode cX3_covers 72 = .ok (.getfield 22, 3) := by decide +kernel
theorem dX3_covers_75 : decode cX3_covers 75 = .ok (.lcmp, 1) := by decide +kernel
theorem dX3_covers_76 : decode cX3_covers 76 = .ok (.ifCond .ne 7, 3) := by decide +kernel
theorem dX3_covers_79 : decode cX3_covers 79 = .ok (.iconst 1, 1) := by decide +kernel
theorem dX3_covers_80 : decode cX3_covers 80 = .ok (.goto 4, 3) := by decide +kernel
theorem dX3_covers_83 : decode cX3_covers 83 = .ok (.iconst 0, 1) := by decide +kernel
theorem dX3_covers_84 : decode cX3_covers 84 = .ok (.ireturn, 1) := by decide +kernel
theorem dX3_testsFor_0 : decode cX3_testsFor 0 = .ok (.aload_n 0, 1) := by decide +kernel
theorem dX3_testsFor_1 : decode cX3_testsFor 1 = .ok (.lload_n 1, 1) := by decide +kernel
theorem dX3_testsFor_2 : decode cX3_testsFor 2 = .ok (.lload_n 3, 1) := by decide +kernel
theorem dX3_testsFor_3 : decode cX3_testsFor 3 = .ok (.invokevirtual 28, 3) := by decide +kernel
theorem dX3_testsFor_6 : decode cX3_testsFor 6 = .ok (.aload_n 0, 1) := by decide +kernel
theorem dX3_testsFor_7 : decode cX3_testsFor 7 = .ok (.getfield 18, 3) := by decide +kernel
theorem dX3_testsFor_10 : decode cX3_testsFor 10 = .ok (.land, 1) := by decide +kernel
theorem dX3_testsFor_11 : decode cX3_testsFor 11 = .ok (.aload_n 0, 1) := by decide +kernel
theorem dX3_testsFor_12 : decode cX3_testsFor 12 = .ok (.getfield 22, 3) := by decide +kernel
theorem dX3_testsFor_15 : decode cX3_testsFor 15 = .ok (.lxor, 1) := by decide +kernel
theorem dX3_testsFor_16 : decode cX3_testsFor 16 = .ok (.ldc2_w 34, 3) := by decide +kernel
theorem dX3_testsFor_19 : decode cX3_testsFor 19 = .ok (.land, 1) := by decide +kernel
theorem dX3_testsFor_20 : decode cX3_testsFor 20 = .ok (.lconst 0, 1) := by decide +kernel
theorem dX3_testsFor_21 : decode cX3_testsFor 21 = .ok (.lcmp, 1) := by decide +kernel
theorem dX3_testsFor_22 : decode cX3_testsFor 22 = .ok (.ifCond .eq 7, 3) := by decide +kernel
theorem dX3_testsFor_25 : decode cX3_testsFor 25 = .ok (.iconst 1, 1) := by decide +kernel
theorem dX3_testsFor_26 : decode cX3_testsFor 26 = .ok (.goto 4, 3) := by decide +kernel
theorem dX3_testsFor_29 : decode cX3_testsFor 29 = .ok (.iconst 0, 1) := by decide +kernel
theorem dX3_testsFor_30 : decode cX3_testsFor 30 = .ok (.istore 5, 2) := by decide +kernel
theorem dX3_testsFor_32 : decode cX3_testsFor 32 = .ok (.iload 5, 2) := by decide +kernel
theorem dX3_testsFor_34 : decode cX3_testsFor 34 = .ok (.ifCond .eq 10, 3) := by decide +kernel
theorem dX3_testsFor_37 : decode cX3_testsFor 37 = .ok (.aload_n 0, 1) := by decide +kernel
theorem dX3_testsFor_38 : decode cX3_testsFor 38 = .ok (.invokevirtual 36, 3) := by decide +kernel
theorem dX3_testsFor_41 : decode cX3_testsFor 41 = .ok (.goto 7, 3) := by decide +kernel
theorem dX3_testsFor_44 : decode cX3_testsFor 44 = .ok (.aload_n 0, 1) := by decide +kernel
theorem dX3_testsFor_45 : decode cX3_testsFor 45 = .ok (.invokevirtual 40, 3) := by decide +kernel
theorem dX3_testsFor_48 : decode cX3_testsFor 48 = .ok (.ireturn, 1) := by decide +kernel
theorem dX3_mostTests_0 : decode cX3_mostTests 0 = .ok (.aload_n 0, 1) := by decide +kernel
theorem dX3_mostTests_1 : decode cX3_mostTests 1 = .ok (.invokevirtual 36, 3) := by decide +kernel
theorem dX3_mostTests_4 : decode cX3_mostTests 4 = .ok (.aload_n 0, 1) := by decide +kernel
theorem dX3_mostTests_5 : decode cX3_mostTests 5 = .ok (.invokevirtual 43, 3) := by decide +kernel
theorem dX3_mostTests_8 : decode cX3_mostTests 8 = .ok (.iadd, 1) := by decide +kernel
theorem dX3_mostTests_9 : decode cX3_mostTests 9 = .ok (.ireturn, 1) := by decide +kernel
theorem dX3_lowerTests_0 : decode cX3_lowerTests 0 = .ok (.aload_n 0, 1) := by decide +kernel
theorem dX3_lowerTests_1 : decode cX3_lowerTests 1 = .ok (.getfield 18, 3) := by decide +kernel
theorem dX3_lowerTests_4 : decode cX3_lowerTests 4 = .ok (.ldc2_w 34, 3) := by decide +kernel
theorem dX3_lowerTests_7 : decode cX3_lowerTests 7 = .ok (.land, 1) := by decide +kernel
theorem dX3_lowerTests_8 : decode cX3_lowerTests 8 = .ok (.lconst 0, 1) := by decide +kernel
theorem dX3_lowerTests_9 : decode cX3_lowerTests 9 = .ok (.lcmp, 1) := by decide +kernel
theorem dX3_lowerTests_10 : decode cX3_lowerTests 10 = .ok (.ifCond .eq 7, 3) := by decide +kernel
theorem dX3_lowerTests_13 : decode cX3_lowerTests 13 = .ok (.iconst 1, 1) := by decide +kernel
theorem dX3_lowerTests_14 : decode cX3_lowerTests 14 = .ok (.goto 4, 3) := by decide +kernel
theorem dX3_lowerTests_17 : decode cX3_lowerTests 17 = .ok (.iconst 0, 1) := by decide +kernel
theorem dX3_lowerTests_18 : decode cX3_lowerTests 18 = .ok (.ireturn, 1) := by decide +kernel
theorem dX3_upperTests_0 : decode cX3_upperTests 0 = .ok (.aload_n 0, 1) := by decide +kernel
theorem dX3_upperTests_1 : decode cX3_upperTests 1 = .ok (.getfield 18, 3) := by decide +kernel
theorem dX3_upperTests_4 : decode cX3_upperTests 4 = .ok (.ldc2_w 46, 3) := by decide +kernel
theorem dX3_upperTests_7 : decode cX3_upperTests 7 = .ok (.land, 1) := by decide +kernel
theorem dX3_upperTests_8 : decode cX3_upperTests 8 = .ok (.lconst 0, 1) := by decide +kernel
theorem dX3_upperTests_9 : decode cX3_upperTests 9 = .ok (.lcmp, 1) := by decide +kernel
theorem dX3_upperTests_10 : decode cX3_upperTests 10 = .ok (.ifCond .eq 7, 3) := by decide +kernel
theorem dX3_upperTests_13 : decode cX3_upperTests 13 = .ok (.iconst 1, 1) := by decide +kernel
theorem dX3_upperTests_14 : decode cX3_upperTests 14 = .ok (.goto 4, 3) := by decide +kernel
theorem dX3_upperTests_17 : decode cX3_upperTests 17 = .ok (.iconst 0, 1) := by decide +kernel
theorem dX3_upperTests_18 : decode cX3_upperTests 18 = .ok (.ireturn, 1) := by decide +kernel
theorem dX3_argumentOf_0 : decode cX3_argumentOf 0 = .ok (.aload_n 0, 1) := by decide +kernel
theorem dX3_argumentOf_1 : decode cX3_argumentOf 1 = .ok (.getfield 15, 3) := by decide +kernel
theorem dX3_argumentOf_4 : decode cX3_argumentOf 4 = .ok (.ifCond .ne 7, 3) := by decide +kernel
theorem dX3_argumentOf_7 : decode cX3_argumentOf 7 = .ok (.lload_n 1, 1) := by decide +kernel
theorem dX3_argumentOf_8 : decode cX3_argumentOf 8 = .ok (.goto 4, 3) := by decide +kernel
theorem dX3_argumentOf_11 : decode cX3_argumentOf 11 = .ok (.lload_n 3, 1) := by decide +kernel
theorem dX3_argumentOf_12 : decode cX3_argumentOf 12 = .ok (.lreturn, 1) := by decide +kernel
