theorem dTS_flushPage_15 : decode prog_1_method_27_code 15 = .ok (.aload_n 0, 1) := by decide +kernel
theorem dTS_flushPage_16 : decode prog_1_method_27_code 16 = .ok (.getfield 12, 3) := by decide +kernel
theorem dTS_flushPage_19 : decode prog_1_method_27_code 19 = .ok (.invokevirtual 197, 3) := by decide +kernel
theorem dTS_flushPage_22 : decode prog_1_method_27_code 22 = .ok (.ireturn, 1) := by decide +kernel
theorem dTS_writeImageBlock_0 : decode prog_1_method_28_code 0 = .ok (.aload_n 0, 1) := by decide +kernel
theorem dTS_writeImageBlock_1 : decode prog_1_method_28_code 1 = .ok (.getfield 19, 3) := by decide +kernel
theorem dTS_writeImageBlock_4 : decode prog_1_method_28_code 4 = .ok (.invokevirtual 130, 3) := by decide +kernel
theorem dTS_writeImageBlock_7 : decode prog_1_method_28_code 7 = .ok (.istore_n 1, 1) := by decide +kernel
theorem dTS_writeImageBlock_8 : decode prog_1_method_28_code 8 = .ok (.iload_n 1, 1) := by decide +kernel
theorem dTS_writeImageBlock_9 : decode prog_1_method_28_code 9 = .ok (.aload_n 0, 1) := by decide +kernel
theorem dTS_writeImageBlock_10 : decode prog_1_method_28_code 10 = .ok (.getfield 114, 3) := by decide +kernel
theorem dTS_writeImageBlock_13 : decode prog_1_method_28_code 13 = .ok (.iconst 4, 1) := by decide +kernel
theorem dTS_writeImageBlock_14 : decode prog_1_method_28_code 14 = .ok (.iadd, 1) := by decide +kernel
theorem dTS_writeImageBlock_15 : decode prog_1_method_28_code 15 = .ok (.invokestatic 47, 3) := by decide +kernel
theorem dTS_writeImageBlock_18 : decode prog_1_method_28_code 18 = .ok (.istore_n 2, 1) := by decide +kernel
theorem dTS_writeImageBlock_19 : decode prog_1_method_28_code 19 = .ok (.aload_n 0, 1) := by decide +kernel
theorem dTS_writeImageBlock_20 : decode prog_1_method_28_code 20 = .ok (.getfield 114, 3) := by decide +kernel
theorem dTS_writeImageBlock_23 : decode prog_1_method_28_code 23 = .ok (.istore_n 3, 1) := by decide +kernel
theorem dTS_writeImageBlock_24 : decode prog_1_method_28_code 24 = .ok (.iload_n 3, 1) := by decide +kernel
theorem dTS_writeImageBlock_25 : decode prog_1_method_28_code 25 = .ok (.iload_n 2, 1) := by decide +kernel
theorem dTS_writeImageBlock_26 : decode prog_1_method_28_code 26 = .ok (.if_icmp .ge (30), 3) := by decide +kernel
theorem dTS_writeImageBlock_29 : decode prog_1_method_28_code 29 = .ok (.aload_n 0, 1) := by decide +kernel
theorem dTS_writeImageBlock_30 : decode prog_1_method_28_code 30 = .ok (.getfield 41, 3) := by decide +kernel
theorem dTS_writeImageBlock_33 : decode prog_1_method_28_code 33 = .ok (.getfield 105, 3) := by decide +kernel
theorem dTS_writeImageBlock_36 : decode prog_1_method_28_code 36 = .ok (.getfield 176, 3) := by decide +kernel
theorem dTS_writeImageBlock_39 : decode prog_1_method_28_code 39 = .ok (.iload_n 3, 1) := by decide +kernel
theorem dTS_writeImageBlock_40 : decode prog_1_method_28_code 40 = .ok (.aload_n 0, 1) := by decide +kernel
theorem dTS_writeImageBlock_41 : decode prog_1_method_28_code 41 = .ok (.getfield 19, 3) := by decide +kernel
theorem dTS_writeImageBlock_44 : decode prog_1_method_28_code 44 = .ok (.getfield 176, 3) := by decide +kernel
theorem dTS_writeImageBlock_47 : decode prog_1_method_28_code 47 = .ok (.iload_n 3, 1) := by decide +kernel
theorem dTS_writeImageBlock_48 : decode prog_1_method_28_code 48 = .ok (.iaload, 1) := by decide +kernel
theorem dTS_writeImageBlock_49 : decode prog_1_method_28_code 49 = .ok (.iastore, 1) := by decide +kernel
theorem dTS_writeImageBlock_50 : decode prog_1_method_28_code 50 = .ok (.iinc 3 1, 3) := by decide +kernel
theorem dTS_writeImageBlock_53 : decode prog_1_method_28_code 53 = .ok (.goto (-29), 3) := by decide +kernel
theorem dTS_writeImageBlock_56 : decode prog_1_method_28_code 56 = .ok (.aload_n 0, 1) := by decide +kernel
theorem dTS_writeImageBlock_57 : decode prog_1_method_28_code 57 = .ok (.iload_n 2, 1) := by decide +kernel
theorem dTS_writeImageBlock_58 : decode prog_1_method_28_code 58 = .ok (.putfield 114, 3) := by decide +kernel
theorem dTS_writeImageBlock_61 : decode prog_1_method_28_code 61 = .ok (.aload_n 0, 1) := by decide +kernel
theorem dTS_writeImageBlock_62 : decode prog_1_method_28_code 62 = .ok (.getfield 114, 3) := by decide +kernel
theorem dTS_writeImageBlock_65 : decode prog_1_method_28_code 65 = .ok (.iload_n 1, 1) := by decide +kernel
theorem dTS_writeImageBlock_66 : decode prog_1_method_28_code 66 = .ok (.if_icmp .lt (8), 3) := by decide +kernel
theorem dTS_writeImageBlock_69 : decode prog_1_method_28_code 69 = .ok (.aload_n 0, 1) := by decide +kernel
theorem dTS_writeImageBlock_70 : decode prog_1_method_28_code 70 = .ok (.iconst 2, 1) := by decide +kernel
theorem dTS_writeImageBlock_71 : decode prog_1_method_28_code 71 = .ok (.putfield 44, 3) := by decide +kernel
theorem dTS_writeImageBlock_74 : decode prog_1_method_28_code 74 = .ok (.aload_n 0, 1) := by decide +kernel
theorem dTS_writeImageBlock_75 : decode prog_1_method_28_code 75 = .ok (.getfield 12, 3) := by decide +kernel
theorem dTS_writeImageBlock_78 : decode prog_1_method_28_code 78 = .ok (.invokevirtual 197, 3) := by decide +kernel
theorem dTS_writeImageBlock_81 : decode prog_1_method_28_code 81 = .ok (.ireturn, 1) := by decide +kernel
theorem dTS_flushTowardsEnd_0 : decode prog_1_method_29_code 0 = .ok (.aload_n 0, 1) := by decide +kernel
theorem dTS_flushTowardsEnd_1 : decode prog_1_method_29_code 1 = .ok (.getfield 117, 3) := by decide +kernel
theorem dTS_flushTowardsEnd_4 : decode prog_1_method_29_code 4 = .ok (.ifCond .ne (27), 3) := by decide +kernel
theorem dTS_flushTowardsEnd_7 : decode prog_1_method_29_code 7 = .ok (.aload_n 0, 1) := by decide +kernel
theorem dTS_flushTowardsEnd_8 : decode prog_1_method_29_code 8 = .ok (.aload_n 0, 1) := by decide +kernel
theorem dTS_flushTowardsEnd_9 : decode prog_1_method_29_code 9 = .ok (.getfield 99, 3) := by decide +kernel
theorem dTS_flushTowardsEnd_12 : decode prog_1_method_29_code 12 = .ok (.putfield 88, 3) := by decide +kernel
theorem dTS_flushTowardsEnd_15 : decode prog_1_method_29_code 15 = .ok (.aload_n 0, 1) := by decide +kernel
theorem dTS_flushTowardsEnd_16 : decode prog_1_method_29_code 16 = .ok (.getfield 41, 3) := by decide +kernel
theorem dTS_flushTowardsEnd_19 : decode prog_1_method_29_code 19 = .ok (.aload_n 0, 1) := by decide +kernel
theorem dTS_flushTowardsEnd_20 : decode prog_1_method_29_code 20 = .ok (.getfield 99, 3) := by decide +kernel
theorem dTS_flushTowardsEnd_23 : decode prog_1_method_29_code 23 = .ok (.putfield 157, 3) := by decide +kernel
theorem dTS_flushTowardsEnd_26 : decode prog_1_method_29_code 26 = .ok (.aload_n 0, 1) := by decide +kernel
theorem dTS_flushTowardsEnd_27 : decode prog_1_method_29_code 27 = .ok (.iconst 1, 1) := by decide +kernel
theorem dTS_flushTowardsEnd_28 : decode prog_1_method_29_code 28 = .ok (.putfield 117, 3) := by decide +kernel
theorem dTS_flushTowardsEnd_31 : decode prog_1_method_29_code 31 = .ok (.aload_n 0, 1) := by decide +kernel
theorem dTS_flushTowardsEnd_32 : decode prog_1_method_29_code 32 = .ok (.getfield 160, 3) := by decide +kernel
theorem dTS_flushTowardsEnd_35 : decode prog_1_method_29_code 35 = .ok (.aload_n 0, 1) := by decide +kernel
theorem dTS_flushTowardsEnd_36 : decode prog_1_method_29_code 36 = .ok (.getfield 41, 3) := by decide +kernel
theorem dTS_flushTowardsEnd_39 : decode prog_1_method_29_code 39 = .ok (.getfield 157, 3) := by decide +kernel
theorem dTS_flushTowardsEnd_42 : decode prog_1_method_29_code 42 = .ok (.if_icmp .ge (19), 3) := by decide +kernel
theorem dTS_flushTowardsEnd_45 : decode prog_1_method_29_code 45 = .ok (.aload_n 0, 1) := by decide +kernel
theorem dTS_flushTowardsEnd_46 : decode prog_1_method_29_code 46 = .ok (.aload_n 0, 1) := by decide +kernel
theorem dTS_flushTowardsEnd_47 : decode prog_1_method_29_code 47 = .ok (.getfield 41, 3) := by decide +kernel
theorem dTS_flushTowardsEnd_50 : decode prog_1_method_29_code 50 = .ok (.getfield 157, 3) := by decide +kernel
theorem dTS_flushTowardsEnd_53 : decode prog_1_method_29_code 53 = .ok (.invokevirtual 194, 3) := by decide +kernel
theorem dTS_flushTowardsEnd_56 : decode prog_1_method_29_code 56 = .ok (.ifCond .ne (5), 3) := by decide +kernel
theorem dTS_flushTowardsEnd_59 : decode prog_1_method_29_code 59 = .ok (.iconst 0, 1) := by decide +kernel
theorem dTS_flushTowardsEnd_60 : decode prog_1_method_29_code 60 = .ok (.ireturn, 1) := by decide +kernel
theorem dTS_flushTowardsEnd_61 : decode prog_1_method_29_code 61 = .ok (.aload_n 0, 1) := by decide +kernel
theorem dTS_flushTowardsEnd_62 : decode prog_1_method_29_code 62 = .ok (.getfield 160, 3) := by decide +kernel
theorem dTS_flushTowardsEnd_65 : decode prog_1_method_29_code 65 = .ok (.aload_n 0, 1) := by decide +kernel
theorem dTS_flushTowardsEnd_66 : decode prog_1_method_29_code 66 = .ok (.getfield 41, 3) := by decide +kernel
theorem dTS_flushTowardsEnd_69 : decode prog_1_method_29_code 69 = .ok (.getfield 157, 3) := by decide +kernel
theorem dTS_flushTowardsEnd_72 : decode prog_1_method_29_code 72 = .ok (.if_icmp .lt (8), 3) := by decide +kernel
theorem dTS_flushTowardsEnd_75 : decode prog_1_method_29_code 75 = .ok (.aload_n 0, 1) := by decide +kernel
theorem dTS_flushTowardsEnd_76 : decode prog_1_method_29_code 76 = .ok (.iconst 3, 1) := by decide +kernel
theorem dTS_flushTowardsEnd_77 : decode prog_1_method_29_code 77 = .ok (.putfield 44, 3) := by decide +kernel
theorem dTS_flushTowardsEnd_80 : decode prog_1_method_29_code 80 = .ok (.iconst 1, 1) := by decide +kernel
theorem dTS_flushTowardsEnd_81 : decode prog_1_method_29_code 81 = .ok (.ireturn, 1) := by decide +kernel
theorem dTS_settle_0 : decode prog_1_method_30_code 0 = .ok (.aload_n 0, 1) := by decide +kernel
theorem dTS_settle_1 : decode prog_1_method_30_code 1 = .ok (.getfield 37, 3) := by decide +kernel
theorem dTS_settle_4 : decode prog_1_method_30_code 4 = .ok (.astore_n 1, 1) := by decide +kernel
theorem dTS_settle_5 : decode prog_1_method_30_code 5 = .ok (.aload_n 0, 1) := by decide +kernel
theorem dTS_settle_6 : decode prog_1_method_30_code 6 = .ok (.aload_n 0, 1) := by decide +kernel
theorem dTS_settle_7 : decode prog_1_method_30_code 7 = .ok (.getfield 41, 3) := by decide +kernel
theorem dTS_settle_10 : decode prog_1_method_30_code 10 = .ok (.putfield 37, 3) := by decide +kernel
theorem dTS_settle_13 : decode prog_1_method_30_code 13 = .ok (.aload_n 0, 1) := by decide +kernel
theorem dTS_settle_14 : decode prog_1_method_30_code 14 = .ok (.aload_n 1, 1) := by decide +kernel
theorem dTS_settle_15 : decode prog_1_method_30_code 15 = .ok (.putfield 41, 3) := by decide +kernel
theorem dTS_settle_18 : decode prog_1_method_30_code 18 = .ok (.aload_n 0, 1) := by decide +kernel
theorem dTS_settle_19 : decode prog_1_method_30_code 19 = .ok (.iconst 0, 1) := by decide +kernel
theorem dTS_settle_20 : decode prog_1_method_30_code 20 = .ok (.putfield 44, 3) := by decide +kernel
theorem dTS_settle_23 : decode prog_1_method_30_code 23 = .ok (.aload_n 0, 1) := by decide +kernel
theorem dTS_settle_24 : decode prog_1_method_30_code 24 = .ok (.getfield 12, 3) := by decide +kernel
theorem dTS_settle_27 : decode prog_1_method_30_code 27 = .ok (.invokevirtual 197, 3) := by decide +kernel
theorem dTS_settle_30 : decode prog_1_method_30_code 30 = .ok (.ireturn, 1) := by decide +kernel
theorem dTS_restoreIndex_0 : decode prog_1_method_31_code 0 = .ok (.aload_n 0, 1) := by decide +kernel
theorem dTS_restoreIndex_1 : decode prog_1_method_31_code 1 = .ok (.getfield 19, 3) := by decide +kernel
theorem dTS_restoreIndex_4 : decode prog_1_method_31_code 4 = .ok (.aload_n 0, 1) := by decide +kernel
theorem dTS_restoreIndex_5 : decode prog_1_method_31_code 5 = .ok (.getfield 37, 3) := by decide +kernel
theorem dTS_restoreIndex_8 : decode prog_1_method_31_code 8 = .ok (.getfield 105, 3) := by decide +kernel
theorem dTS_restoreIndex_11 : decode prog_1_method_31_code 11 = .ok (.getfield 108, 3) := by decide +kernel
theorem dTS_restoreIndex_14 : decode prog_1_method_31_code 14 = .ok (.putfield 108, 3) := by decide +kernel
theorem dTS_restoreIndex_17 : decode prog_1_method_31_code 17 = .ok (.aload_n 0, 1) := by decide +kernel
theorem dTS_restoreIndex_18 : decode prog_1_method_31_code 18 = .ok (.getfield 19, 3) := by decide +kernel
theorem dTS_restoreIndex_21 : decode prog_1_method_31_code 21 = .ok (.aload_n 0, 1) := by decide +kernel
theorem dTS_restoreIndex_22 : decode prog_1_method_31_code 22 = .ok (.getfield 37, 3) := by decide +kernel
theorem dTS_restoreIndex_25 : decode prog_1_method_31_code 25 = .ok (.getfield 105, 3) := by decide +kernel
theorem dTS_restoreIndex_28 : decode prog_1_method_31_code 28 = .ok (.getfield 111, 3) := by decide +kernel
theorem dTS_restoreIndex_31 : decode prog_1_method_31_code 31 = .ok (.putfield 111, 3) := by decide +kernel
theorem dTS_restoreIndex_34 : decode prog_1_method_31_code 34 = .ok (.aload_n 0, 1) := by decide +kernel
theorem dTS_restoreIndex_35 : decode prog_1_method_31_code 35 = .ok (.getfield 19, 3) := by decide +kernel
theorem dTS_restoreIndex_38 : decode prog_1_method_31_code 38 = .ok (.invokevirtual 130, 3) := by decide +kernel
theorem dTS_restoreIndex_41 : decode prog_1_method_31_code 41 = .ok (.istore_n 1, 1) := by decide +kernel
theorem dTS_restoreIndex_42 : decode prog_1_method_31_code 42 = .ok (.iconst 0, 1) := by decide +kernel
theorem dTS_restoreIndex_43 : decode prog_1_method_31_code 43 = .ok (.istore_n 2, 1) := by decide +kernel
theorem dTS_restoreIndex_44 : decode prog_1_method_31_code 44 = .ok (.iload_n 2, 1) := by decide +kernel
theorem dTS_restoreIndex_45 : decode prog_1_method_31_code 45 = .ok (.iload_n 1, 1) := by decide +kernel
theorem dTS_restoreIndex_46 : decode prog_1_method_31_code 46 = .ok (.if_icmp .ge (34), 3) := by decide +kernel
theorem dTS_restoreIndex_49 : decode prog_1_method_31_code 49 = .ok (.aload_n 0, 1) := by decide +kernel
theorem dTS_restoreIndex_50 : decode prog_1_method_31_code 50 = .ok (.getfield 19, 3) := by decide +kernel
theorem dTS_restoreIndex_53 : decode prog_1_method_31_code 53 = .ok (.getfield 176, 3) := by decide +kernel
theorem dTS_restoreIndex_56 : decode prog_1_method_31_code 56 = .ok (.iload_n 2, 1) := by decide +kernel
theorem dTS_restoreIndex_57 : decode prog_1_method_31_code 57 = .ok (.aload_n 0, 1) := by decide +kernel
theorem dTS_restoreIndex_58 : decode prog_1_method_31_code 58 = .ok (.aload_n 0, 1) := by decide +kernel
theorem dTS_restoreIndex_59 : decode prog_1_method_31_code 59 = .ok (.getfield 37, 3) := by decide +kernel
theorem dTS_restoreIndex_62 : decode prog_1_method_31_code 62 = .ok (.getfield 105, 3) := by decide +kernel
theorem dTS_restoreIndex_65 : decode prog_1_method_31_code 65 = .ok (.getfield 176, 3) := by decide +kernel
theorem dTS_restoreIndex_68 : decode prog_1_method_31_code 68 = .ok (.iload_n 2, 1) := by decide +kernel
theorem dTS_restoreIndex_69 : decode prog_1_method_31_code 69 = .ok (.iaload, 1) := by decide +kernel
theorem dTS_restoreIndex_70 : decode prog_1_method_31_code 70 = .ok (.invokevirtual 200, 3) := by decide +kernel
theorem dTS_restoreIndex_73 : decode prog_1_method_31_code 73 = .ok (.iastore, 1) := by decide +kernel
theorem dTS_restoreIndex_74 : decode prog_1_method_31_code 74 = .ok (.iinc 2 1, 3) := by decide +kernel
theorem dTS_restoreIndex_77 : decode prog_1_method_31_code 77 = .ok (.goto (-33), 3) := by decide +kernel
theorem dTS_restoreIndex_80 : decode prog_1_method_31_code 80 = .ok (.return_, 1) := by decide +kernel
theorem dTS_lastBelowCut_0 : decode prog_1_method_32_code 0 = .ok (.iload_n 1, 1) := by decide +kernel
theorem dTS_lastBelowCut_1 : decode prog_1_method_32_code 1 = .ok (.istore_n 2, 1) := by decide +kernel
theorem dTS_lastBelowCut_2 : decode prog_1_method_32_code 2 = .ok (.iconst 0, 1) := by decide +kernel
theorem dTS_lastBelowCut_3 : decode prog_1_method_32_code 3 = .ok (.istore_n 3, 1) := by decide +kernel
theorem dTS_lastBelowCut_4 : decode prog_1_method_32_code 4 = .ok (.iload_n 3, 1) := by decide +kernel
theorem dTS_lastBelowCut_5 : decode prog_1_method_32_code 5 = .ok (.sipush 400, 3) := by decide +kernel
theorem dTS_lastBelowCut_8 : decode prog_1_method_32_code 8 = .ok (.if_icmp .ge (43), 3) := by decide +kernel
theorem dTS_lastBelowCut_11 : decode prog_1_method_32_code 11 = .ok (.iload_n 2, 1) := by decide +kernel
theorem dTS_lastBelowCut_12 : decode prog_1_method_32_code 12 = .ok (.aload_n 0, 1) := by decide +kernel
theorem dTS_lastBelowCut_13 : decode prog_1_method_32_code 13 = .ok (.getfield 37, 3) := by decide +kernel
theorem dTS_lastBelowCut_16 : decode prog_1_method_32_code 16 = .ok (.getfield 102, 3) := by decide +kernel
theorem dTS_lastBelowCut_19 : decode prog_1_method_32_code 19 = .ok (.if_icmp .lt (32), 3) := by decide +kernel
theorem dTS_lastBelowCut_22 : decode prog_1_method_32_code 22 = .ok (.aload_n 0, 1) := by decide +kernel
theorem dTS_lastBelowCut_23 : decode prog_1_method_32_code 23 = .ok (.getfield 12, 3) := by decide +kernel
theorem dTS_lastBelowCut_26 : decode prog_1_method_32_code 26 = .ok (.dup, 1) := by decide +kernel
theorem dTS_lastBelowCut_27 : decode prog_1_method_32_code 27 = .ok (.getfield 141, 3) := by decide +kernel
theorem dTS_lastBelowCut_30 : decode prog_1_method_32_code 30 = .ok (.iconst 1, 1) := by decide +kernel
theorem dTS_lastBelowCut_31 : decode prog_1_method_32_code 31 = .ok (.iadd, 1) := by decide +kernel
theorem dTS_lastBelowCut_32 : decode prog_1_method_32_code 32 = .ok (.putfield 141, 3) := by decide +kernel
theorem dTS_lastBelowCut_35 : decode prog_1_method_32_code 35 = .ok (.aload_n 0, 1) := by decide +kernel
theorem dTS_lastBelowCut_36 : decode prog_1_method_32_code 36 = .ok (.getfield 26, 3) := by decide +kernel
theorem dTS_lastBelowCut_39 : decode prog_1_method_32_code 39 = .ok (.getfield 166, 3) := by decide +kernel
theorem dTS_lastBelowCut_42 : decode prog_1_method_32_code 42 = .ok (.iload_n 2, 1) := by decide +kernel
theorem dTS_lastBelowCut_43 : decode prog_1_method_32_code 43 = .ok (.iaload, 1) := by decide +kernel
theorem dTS_lastBelowCut_44 : decode prog_1_method_32_code 44 = .ok (.istore_n 2, 1) := by decide +kernel
theorem dTS_lastBelowCut_45 : decode prog_1_method_32_code 45 = .ok (.iinc 3 1, 3) := by decide +kernel
theorem dTS_lastBelowCut_48 : decode prog_1_method_32_code 48 = .ok (.goto (-44), 3) := by decide +kernel
theorem dTS_lastBelowCut_51 : decode prog_1_method_32_code 51 = .ok (.iload_n 2, 1) := by decide +kernel
theorem dTS_lastBelowCut_52 : decode prog_1_method_32_code 52 = .ok (.ireturn, 1) := by decide +kernel
