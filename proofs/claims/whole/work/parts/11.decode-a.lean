theorem dIX_init_0 : decode prog_2_method_1_code 0 = .ok (.aload_n 0, 1) := by decide +kernel
theorem dIX_init_1 : decode prog_2_method_1_code 1 = .ok (.invokespecial 3, 3) := by decide +kernel
theorem dIX_init_4 : decode prog_2_method_1_code 4 = .ok (.aload_n 0, 1) := by decide +kernel
theorem dIX_init_5 : decode prog_2_method_1_code 5 = .ok (.iconst 1, 1) := by decide +kernel
theorem dIX_init_6 : decode prog_2_method_1_code 6 = .ok (.putfield 9, 3) := by decide +kernel
theorem dIX_init_9 : decode prog_2_method_1_code 9 = .ok (.aload_n 0, 1) := by decide +kernel
theorem dIX_init_10 : decode prog_2_method_1_code 10 = .ok (.bipush 16, 2) := by decide +kernel
theorem dIX_init_12 : decode prog_2_method_1_code 12 = .ok (.newarray .int, 2) := by decide +kernel
theorem dIX_init_14 : decode prog_2_method_1_code 14 = .ok (.putfield 15, 3) := by decide +kernel
theorem dIX_init_17 : decode prog_2_method_1_code 17 = .ok (.aload_n 0, 1) := by decide +kernel
theorem dIX_init_18 : decode prog_2_method_1_code 18 = .ok (.getfield 15, 3) := by decide +kernel
theorem dIX_init_21 : decode prog_2_method_1_code 21 = .ok (.iconst (-1), 1) := by decide +kernel
theorem dIX_init_22 : decode prog_2_method_1_code 22 = .ok (.invokestatic 19, 3) := by decide +kernel
theorem dIX_init_25 : decode prog_2_method_1_code 25 = .ok (.return_, 1) := by decide +kernel
theorem dIX_count_0 : decode prog_2_method_2_code 0 = .ok (.iconst 1, 1) := by decide +kernel
theorem dIX_count_1 : decode prog_2_method_2_code 1 = .ok (.aload_n 0, 1) := by decide +kernel
theorem dIX_count_2 : decode prog_2_method_2_code 2 = .ok (.getfield 9, 3) := by decide +kernel
theorem dIX_count_5 : decode prog_2_method_2_code 5 = .ok (.ishl, 1) := by decide +kernel
theorem dIX_count_6 : decode prog_2_method_2_code 6 = .ok (.aload_n 0, 1) := by decide +kernel
theorem dIX_count_7 : decode prog_2_method_2_code 7 = .ok (.getfield 25, 3) := by decide +kernel
theorem dIX_count_10 : decode prog_2_method_2_code 10 = .ok (.iadd, 1) := by decide +kernel
theorem dIX_count_11 : decode prog_2_method_2_code 11 = .ok (.ireturn, 1) := by decide +kernel
theorem dIX_bucketOf_0 : decode prog_2_method_3_code 0 = .ok (.bipush 13, 2) := by decide +kernel
theorem dIX_bucketOf_2 : decode prog_2_method_3_code 2 = .ok (.iload_n 1, 1) := by decide +kernel
theorem dIX_bucketOf_3 : decode prog_2_method_3_code 3 = .ok (.imul, 1) := by decide +kernel
theorem dIX_bucketOf_4 : decode prog_2_method_3_code 4 = .ok (.iconst 5, 1) := by decide +kernel
theorem dIX_bucketOf_5 : decode prog_2_method_3_code 5 = .ok (.iadd, 1) := by decide +kernel
theorem dIX_bucketOf_6 : decode prog_2_method_3_code 6 = .ok (.bipush 32, 2) := by decide +kernel
theorem dIX_bucketOf_8 : decode prog_2_method_3_code 8 = .ok (.irem, 1) := by decide +kernel
theorem dIX_bucketOf_9 : decode prog_2_method_3_code 9 = .ok (.istore_n 2, 1) := by decide +kernel
theorem dIX_bucketOf_10 : decode prog_2_method_3_code 10 = .ok (.iload_n 2, 1) := by decide +kernel
theorem dIX_bucketOf_11 : decode prog_2_method_3_code 11 = .ok (.iconst 1, 1) := by decide +kernel
theorem dIX_bucketOf_12 : decode prog_2_method_3_code 12 = .ok (.aload_n 0, 1) := by decide +kernel
theorem dIX_bucketOf_13 : decode prog_2_method_3_code 13 = .ok (.getfield 9, 3) := by decide +kernel
theorem dIX_bucketOf_16 : decode prog_2_method_3_code 16 = .ok (.ishl, 1) := by decide +kernel
theorem dIX_bucketOf_17 : decode prog_2_method_3_code 17 = .ok (.irem, 1) := by decide +kernel
theorem dIX_bucketOf_18 : decode prog_2_method_3_code 18 = .ok (.istore_n 3, 1) := by decide +kernel
theorem dIX_bucketOf_19 : decode prog_2_method_3_code 19 = .ok (.iload_n 3, 1) := by decide +kernel
theorem dIX_bucketOf_20 : decode prog_2_method_3_code 20 = .ok (.aload_n 0, 1) := by decide +kernel
theorem dIX_bucketOf_21 : decode prog_2_method_3_code 21 = .ok (.getfield 25, 3) := by decide +kernel
theorem dIX_bucketOf_24 : decode prog_2_method_3_code 24 = .ok (.if_icmp .ge (16), 3) := by decide +kernel
theorem dIX_bucketOf_27 : decode prog_2_method_3_code 27 = .ok (.iload_n 2, 1) := by decide +kernel
theorem dIX_bucketOf_28 : decode prog_2_method_3_code 28 = .ok (.iconst 1, 1) := by decide +kernel
theorem dIX_bucketOf_29 : decode prog_2_method_3_code 29 = .ok (.aload_n 0, 1) := by decide +kernel
theorem dIX_bucketOf_30 : decode prog_2_method_3_code 30 = .ok (.getfield 9, 3) := by decide +kernel
theorem dIX_bucketOf_33 : decode prog_2_method_3_code 33 = .ok (.iconst 1, 1) := by decide +kernel
theorem dIX_bucketOf_34 : decode prog_2_method_3_code 34 = .ok (.iadd, 1) := by decide +kernel
theorem dIX_bucketOf_35 : decode prog_2_method_3_code 35 = .ok (.ishl, 1) := by decide +kernel
theorem dIX_bucketOf_36 : decode prog_2_method_3_code 36 = .ok (.irem, 1) := by decide +kernel
theorem dIX_bucketOf_37 : decode prog_2_method_3_code 37 = .ok (.goto (4), 3) := by decide +kernel
theorem dIX_bucketOf_40 : decode prog_2_method_3_code 40 = .ok (.iload_n 3, 1) := by decide +kernel
theorem dIX_bucketOf_41 : decode prog_2_method_3_code 41 = .ok (.ireturn, 1) := by decide +kernel
theorem dIX_twin_0 : decode prog_2_method_4_code 0 = .ok (.aload_n 0, 1) := by decide +kernel
theorem dIX_twin_1 : decode prog_2_method_4_code 1 = .ok (.getfield 15, 3) := by decide +kernel
theorem dIX_twin_4 : decode prog_2_method_4_code 4 = .ok (.aload_n 0, 1) := by decide +kernel
theorem dIX_twin_5 : decode prog_2_method_4_code 5 = .ok (.invokevirtual 28, 3) := by decide +kernel
theorem dIX_twin_8 : decode prog_2_method_4_code 8 = .ok (.aload_n 0, 1) := by decide +kernel
theorem dIX_twin_9 : decode prog_2_method_4_code 9 = .ok (.getfield 15, 3) := by decide +kernel
theorem dIX_twin_12 : decode prog_2_method_4_code 12 = .ok (.aload_n 0, 1) := by decide +kernel
theorem dIX_twin_13 : decode prog_2_method_4_code 13 = .ok (.getfield 25, 3) := by decide +kernel
theorem dIX_twin_16 : decode prog_2_method_4_code 16 = .ok (.iaload, 1) := by decide +kernel
theorem dIX_twin_17 : decode prog_2_method_4_code 17 = .ok (.iastore, 1) := by decide +kernel
theorem dIX_twin_18 : decode prog_2_method_4_code 18 = .ok (.aload_n 0, 1) := by decide +kernel
theorem dIX_twin_19 : decode prog_2_method_4_code 19 = .ok (.dup, 1) := by decide +kernel
theorem dIX_twin_20 : decode prog_2_method_4_code 20 = .ok (.getfield 25, 3) := by decide +kernel
theorem dIX_twin_23 : decode prog_2_method_4_code 23 = .ok (.iconst 1, 1) := by decide +kernel
theorem dIX_twin_24 : decode prog_2_method_4_code 24 = .ok (.iadd, 1) := by decide +kernel
theorem dIX_twin_25 : decode prog_2_method_4_code 25 = .ok (.putfield 25, 3) := by decide +kernel
theorem dIX_twin_28 : decode prog_2_method_4_code 28 = .ok (.aload_n 0, 1) := by decide +kernel
theorem dIX_twin_29 : decode prog_2_method_4_code 29 = .ok (.getfield 25, 3) := by decide +kernel
theorem dIX_twin_32 : decode prog_2_method_4_code 32 = .ok (.iconst 1, 1) := by decide +kernel
theorem dIX_twin_33 : decode prog_2_method_4_code 33 = .ok (.aload_n 0, 1) := by decide +kernel
theorem dIX_twin_34 : decode prog_2_method_4_code 34 = .ok (.getfield 9, 3) := by decide +kernel
theorem dIX_twin_37 : decode prog_2_method_4_code 37 = .ok (.ishl, 1) := by decide +kernel
theorem dIX_twin_38 : decode prog_2_method_4_code 38 = .ok (.if_icmp .ne (18), 3) := by decide +kernel
theorem dIX_twin_41 : decode prog_2_method_4_code 41 = .ok (.aload_n 0, 1) := by decide +kernel
theorem dIX_twin_42 : decode prog_2_method_4_code 42 = .ok (.dup, 1) := by decide +kernel
theorem dIX_twin_43 : decode prog_2_method_4_code 43 = .ok (.getfield 9, 3) := by decide +kernel
theorem dIX_twin_46 : decode prog_2_method_4_code 46 = .ok (.iconst 1, 1) := by decide +kernel
theorem dIX_twin_47 : decode prog_2_method_4_code 47 = .ok (.iadd, 1) := by decide +kernel
theorem dIX_twin_48 : decode prog_2_method_4_code 48 = .ok (.putfield 9, 3) := by decide +kernel
theorem dIX_twin_51 : decode prog_2_method_4_code 51 = .ok (.aload_n 0, 1) := by decide +kernel
theorem dIX_twin_52 : decode prog_2_method_4_code 52 = .ok (.iconst 0, 1) := by decide +kernel
theorem dIX_twin_53 : decode prog_2_method_4_code 53 = .ok (.putfield 25, 3) := by decide +kernel
theorem dIX_twin_56 : decode prog_2_method_4_code 56 = .ok (.return_, 1) := by decide +kernel
theorem dMA_init_0 : decode prog_3_method_1_code 0 = .ok (.aload_n 0, 1) := by decide +kernel
theorem dMA_init_1 : decode prog_3_method_1_code 1 = .ok (.invokespecial 1, 3) := by decide +kernel
theorem dMA_init_4 : decode prog_3_method_1_code 4 = .ok (.return_, 1) := by decide +kernel
theorem dMA_writeBlock_0 : decode prog_3_method_2_code 0 = .ok (.aload_n 0, 1) := by decide +kernel
theorem dMA_writeBlock_1 : decode prog_3_method_2_code 1 = .ok (.dup, 1) := by decide +kernel
theorem dMA_writeBlock_2 : decode prog_3_method_2_code 2 = .ok (.getfield 7, 3) := by decide +kernel
theorem dMA_writeBlock_5 : decode prog_3_method_2_code 5 = .ok (.iconst 1, 1) := by decide +kernel
theorem dMA_writeBlock_6 : decode prog_3_method_2_code 6 = .ok (.iadd, 1) := by decide +kernel
theorem dMA_writeBlock_7 : decode prog_3_method_2_code 7 = .ok (.putfield 7, 3) := by decide +kernel
theorem dMA_writeBlock_10 : decode prog_3_method_2_code 10 = .ok (.aload_n 0, 1) := by decide +kernel
theorem dMA_writeBlock_11 : decode prog_3_method_2_code 11 = .ok (.getfield 13, 3) := by decide +kernel
theorem dMA_writeBlock_14 : decode prog_3_method_2_code 14 = .ok (.ifCond .le (29), 3) := by decide +kernel
theorem dMA_writeBlock_17 : decode prog_3_method_2_code 17 = .ok (.aload_n 0, 1) := by decide +kernel
theorem dMA_writeBlock_18 : decode prog_3_method_2_code 18 = .ok (.dup, 1) := by decide +kernel
theorem dMA_writeBlock_19 : decode prog_3_method_2_code 19 = .ok (.getfield 13, 3) := by decide +kernel
theorem dMA_writeBlock_22 : decode prog_3_method_2_code 22 = .ok (.iconst 1, 1) := by decide +kernel
theorem dMA_writeBlock_23 : decode prog_3_method_2_code 23 = .ok (.isub, 1) := by decide +kernel
theorem dMA_writeBlock_24 : decode prog_3_method_2_code 24 = .ok (.putfield 13, 3) := by decide +kernel
theorem dMA_writeBlock_27 : decode prog_3_method_2_code 27 = .ok (.aload_n 0, 1) := by decide +kernel
theorem dMA_writeBlock_28 : decode prog_3_method_2_code 28 = .ok (.aload_n 0, 1) := by decide +kernel
theorem dMA_writeBlock_29 : decode prog_3_method_2_code 29 = .ok (.getfield 13, 3) := by decide +kernel
theorem dMA_writeBlock_32 : decode prog_3_method_2_code 32 = .ok (.ifCond .ne (7), 3) := by decide +kernel
theorem dMA_writeBlock_35 : decode prog_3_method_2_code 35 = .ok (.iconst 1, 1) := by decide +kernel
theorem dMA_writeBlock_36 : decode prog_3_method_2_code 36 = .ok (.goto (4), 3) := by decide +kernel
theorem dMA_writeBlock_39 : decode prog_3_method_2_code 39 = .ok (.iconst 0, 1) := by decide +kernel
theorem dMA_writeBlock_40 : decode prog_3_method_2_code 40 = .ok (.putfield 16, 3) := by decide +kernel
theorem dMA_writeBlock_43 : decode prog_3_method_2_code 43 = .ok (.aload_n 0, 1) := by decide +kernel
theorem dMA_writeBlock_44 : decode prog_3_method_2_code 44 = .ok (.getfield 16, 3) := by decide +kernel
theorem dMA_writeBlock_47 : decode prog_3_method_2_code 47 = .ok (.ifCond .ne (7), 3) := by decide +kernel
theorem dMA_writeBlock_50 : decode prog_3_method_2_code 50 = .ok (.iconst 1, 1) := by decide +kernel
theorem dMA_writeBlock_51 : decode prog_3_method_2_code 51 = .ok (.goto (4), 3) := by decide +kernel
theorem dMA_writeBlock_54 : decode prog_3_method_2_code 54 = .ok (.iconst 0, 1) := by decide +kernel
theorem dMA_writeBlock_55 : decode prog_3_method_2_code 55 = .ok (.ireturn, 1) := by decide +kernel
theorem dRE_init_0 : decode prog_4_method_1_code 0 = .ok (.aload_n 0, 1) := by decide +kernel
theorem dRE_init_1 : decode prog_4_method_1_code 1 = .ok (.invokespecial 3, 3) := by decide +kernel
theorem dRE_init_4 : decode prog_4_method_1_code 4 = .ok (.aload_n 0, 1) := by decide +kernel
theorem dRE_init_5 : decode prog_4_method_1_code 5 = .ok (.sipush 400, 3) := by decide +kernel
theorem dRE_init_8 : decode prog_4_method_1_code 8 = .ok (.newarray .int, 2) := by decide +kernel
theorem dRE_init_10 : decode prog_4_method_1_code 10 = .ok (.putfield 9, 3) := by decide +kernel
theorem dRE_init_13 : decode prog_4_method_1_code 13 = .ok (.aload_n 0, 1) := by decide +kernel
theorem dRE_init_14 : decode prog_4_method_1_code 14 = .ok (.sipush 400, 3) := by decide +kernel
theorem dRE_init_17 : decode prog_4_method_1_code 17 = .ok (.newarray .int, 2) := by decide +kernel
theorem dRE_init_19 : decode prog_4_method_1_code 19 = .ok (.putfield 15, 3) := by decide +kernel
theorem dRE_init_22 : decode prog_4_method_1_code 22 = .ok (.aload_n 0, 1) := by decide +kernel
theorem dRE_init_23 : decode prog_4_method_1_code 23 = .ok (.sipush 400, 3) := by decide +kernel
theorem dRE_init_26 : decode prog_4_method_1_code 26 = .ok (.newarray .int, 2) := by decide +kernel
theorem dRE_init_28 : decode prog_4_method_1_code 28 = .ok (.putfield 18, 3) := by decide +kernel
theorem dRE_init_31 : decode prog_4_method_1_code 31 = .ok (.aload_n 0, 1) := by decide +kernel
theorem dRE_init_32 : decode prog_4_method_1_code 32 = .ok (.sipush 400, 3) := by decide +kernel
theorem dRE_init_35 : decode prog_4_method_1_code 35 = .ok (.newarray .int, 2) := by decide +kernel
theorem dRE_init_37 : decode prog_4_method_1_code 37 = .ok (.putfield 21, 3) := by decide +kernel
theorem dRE_init_40 : decode prog_4_method_1_code 40 = .ok (.aload_n 0, 1) := by decide +kernel
theorem dRE_init_41 : decode prog_4_method_1_code 41 = .ok (.sipush 400, 3) := by decide +kernel
theorem dRE_init_44 : decode prog_4_method_1_code 44 = .ok (.newarray .boolean, 2) := by decide +kernel
theorem dRE_init_46 : decode prog_4_method_1_code 46 = .ok (.putfield 24, 3) := by decide +kernel
theorem dRE_init_49 : decode prog_4_method_1_code 49 = .ok (.return_, 1) := by decide +kernel
theorem dSA_init_0 : decode prog_5_method_1_code 0 = .ok (.aload_n 0, 1) := by decide +kernel
theorem dSA_init_1 : decode prog_5_method_1_code 1 = .ok (.invokespecial 1, 3) := by decide +kernel
theorem dSA_init_4 : decode prog_5_method_1_code 4 = .ok (.aload_n 0, 1) := by decide +kernel
theorem dSA_init_5 : decode prog_5_method_1_code 5 = .ok (.new 7, 3) := by decide +kernel
theorem dSA_init_8 : decode prog_5_method_1_code 8 = .ok (.dup, 1) := by decide +kernel
theorem dSA_init_9 : decode prog_5_method_1_code 9 = .ok (.invokespecial 9, 3) := by decide +kernel
theorem dSA_init_12 : decode prog_5_method_1_code 12 = .ok (.putfield 10, 3) := by decide +kernel
theorem dSA_init_15 : decode prog_5_method_1_code 15 = .ok (.return_, 1) := by decide +kernel
theorem dJA_fill_0 : decode prog_9_method_103_code 0 = .ok (.iconst 0, 1) := by decide +kernel
theorem dJA_fill_1 : decode prog_9_method_103_code 1 = .ok (.istore_n 2, 1) := by decide +kernel
theorem dJA_fill_2 : decode prog_9_method_103_code 2 = .ok (.aload_n 0, 1) := by decide +kernel
theorem dJA_fill_3 : decode prog_9_method_103_code 3 = .ok (.arraylength, 1) := by decide +kernel
theorem dJA_fill_4 : decode prog_9_method_103_code 4 = .ok (.istore_n 3, 1) := by decide +kernel
theorem dJA_fill_5 : decode prog_9_method_103_code 5 = .ok (.iload_n 2, 1) := by decide +kernel
theorem dJA_fill_6 : decode prog_9_method_103_code 6 = .ok (.iload_n 3, 1) := by decide +kernel
theorem dJA_fill_7 : decode prog_9_method_103_code 7 = .ok (.if_icmp .ge (13), 3) := by decide +kernel
theorem dJA_fill_10 : decode prog_9_method_103_code 10 = .ok (.aload_n 0, 1) := by decide +kernel
theorem dJA_fill_11 : decode prog_9_method_103_code 11 = .ok (.iload_n 2, 1) := by decide +kernel
theorem dJA_fill_12 : decode prog_9_method_103_code 12 = .ok (.iload_n 1, 1) := by decide +kernel
theorem dJA_fill_13 : decode prog_9_method_103_code 13 = .ok (.iastore, 1) := by decide +kernel
theorem dJA_fill_14 : decode prog_9_method_103_code 14 = .ok (.iinc 2 1, 3) := by decide +kernel
theorem dJA_fill_17 : decode prog_9_method_103_code 17 = .ok (.goto (-12), 3) := by decide +kernel
theorem dJA_fill_20 : decode prog_9_method_103_code 20 = .ok (.return_, 1) := by decide +kernel
