theorem dTS_init_0 : decode prog_1_method_1_code 0 = .ok (.aload_n 0, 1) := by decide +kernel
theorem dTS_init_1 : decode prog_1_method_1_code 1 = .ok (.invokespecial 3, 3) := by decide +kernel
theorem dTS_init_4 : decode prog_1_method_1_code 4 = .ok (.aload_n 0, 1) := by decide +kernel
theorem dTS_init_5 : decode prog_1_method_1_code 5 = .ok (.new 9, 3) := by decide +kernel
theorem dTS_init_8 : decode prog_1_method_1_code 8 = .ok (.dup, 1) := by decide +kernel
theorem dTS_init_9 : decode prog_1_method_1_code 9 = .ok (.invokespecial 11, 3) := by decide +kernel
theorem dTS_init_12 : decode prog_1_method_1_code 12 = .ok (.putfield 12, 3) := by decide +kernel
theorem dTS_init_15 : decode prog_1_method_1_code 15 = .ok (.aload_n 0, 1) := by decide +kernel
theorem dTS_init_16 : decode prog_1_method_1_code 16 = .ok (.new 16, 3) := by decide +kernel
theorem dTS_init_19 : decode prog_1_method_1_code 19 = .ok (.dup, 1) := by decide +kernel
theorem dTS_init_20 : decode prog_1_method_1_code 20 = .ok (.invokespecial 18, 3) := by decide +kernel
theorem dTS_init_23 : decode prog_1_method_1_code 23 = .ok (.putfield 19, 3) := by decide +kernel
theorem dTS_init_26 : decode prog_1_method_1_code 26 = .ok (.aload_n 0, 1) := by decide +kernel
theorem dTS_init_27 : decode prog_1_method_1_code 27 = .ok (.new 23, 3) := by decide +kernel
theorem dTS_init_30 : decode prog_1_method_1_code 30 = .ok (.dup, 1) := by decide +kernel
theorem dTS_init_31 : decode prog_1_method_1_code 31 = .ok (.invokespecial 25, 3) := by decide +kernel
theorem dTS_init_34 : decode prog_1_method_1_code 34 = .ok (.putfield 26, 3) := by decide +kernel
theorem dTS_init_37 : decode prog_1_method_1_code 37 = .ok (.aload_n 0, 1) := by decide +kernel
theorem dTS_init_38 : decode prog_1_method_1_code 38 = .ok (.iconst 1, 1) := by decide +kernel
theorem dTS_init_39 : decode prog_1_method_1_code 39 = .ok (.putfield 30, 3) := by decide +kernel
theorem dTS_init_42 : decode prog_1_method_1_code 42 = .ok (.aload_n 0, 1) := by decide +kernel
theorem dTS_init_43 : decode prog_1_method_1_code 43 = .ok (.new 34, 3) := by decide +kernel
theorem dTS_init_46 : decode prog_1_method_1_code 46 = .ok (.dup, 1) := by decide +kernel
theorem dTS_init_47 : decode prog_1_method_1_code 47 = .ok (.invokespecial 36, 3) := by decide +kernel
theorem dTS_init_50 : decode prog_1_method_1_code 50 = .ok (.putfield 37, 3) := by decide +kernel
theorem dTS_init_53 : decode prog_1_method_1_code 53 = .ok (.aload_n 0, 1) := by decide +kernel
theorem dTS_init_54 : decode prog_1_method_1_code 54 = .ok (.new 34, 3) := by decide +kernel
theorem dTS_init_57 : decode prog_1_method_1_code 57 = .ok (.dup, 1) := by decide +kernel
theorem dTS_init_58 : decode prog_1_method_1_code 58 = .ok (.invokespecial 36, 3) := by decide +kernel
theorem dTS_init_61 : decode prog_1_method_1_code 61 = .ok (.putfield 41, 3) := by decide +kernel
theorem dTS_init_64 : decode prog_1_method_1_code 64 = .ok (.aload_n 0, 1) := by decide +kernel
theorem dTS_init_65 : decode prog_1_method_1_code 65 = .ok (.iconst 0, 1) := by decide +kernel
theorem dTS_init_66 : decode prog_1_method_1_code 66 = .ok (.putfield 44, 3) := by decide +kernel
theorem dTS_init_69 : decode prog_1_method_1_code 69 = .ok (.aload_n 0, 1) := by decide +kernel
theorem dTS_init_70 : decode prog_1_method_1_code 70 = .ok (.iconst 3, 1) := by decide +kernel
theorem dTS_init_71 : decode prog_1_method_1_code 71 = .ok (.bipush 8, 2) := by decide +kernel
theorem dTS_init_73 : decode prog_1_method_1_code 73 = .ok (.iload_n 1, 1) := by decide +kernel
theorem dTS_init_74 : decode prog_1_method_1_code 74 = .ok (.invokestatic 47, 3) := by decide +kernel
theorem dTS_init_77 : decode prog_1_method_1_code 77 = .ok (.invokestatic 53, 3) := by decide +kernel
theorem dTS_init_80 : decode prog_1_method_1_code 80 = .ok (.putfield 56, 3) := by decide +kernel
theorem dTS_init_83 : decode prog_1_method_1_code 83 = .ok (.aload_n 0, 1) := by decide +kernel
theorem dTS_init_84 : decode prog_1_method_1_code 84 = .ok (.iconst 1, 1) := by decide +kernel
theorem dTS_init_85 : decode prog_1_method_1_code 85 = .ok (.aload_n 0, 1) := by decide +kernel
theorem dTS_init_86 : decode prog_1_method_1_code 86 = .ok (.getfield 56, 3) := by decide +kernel
theorem dTS_init_89 : decode prog_1_method_1_code 89 = .ok (.iconst 2, 1) := by decide +kernel
theorem dTS_init_90 : decode prog_1_method_1_code 90 = .ok (.isub, 1) := by decide +kernel
theorem dTS_init_91 : decode prog_1_method_1_code 91 = .ok (.iload_n 2, 1) := by decide +kernel
theorem dTS_init_92 : decode prog_1_method_1_code 92 = .ok (.invokestatic 47, 3) := by decide +kernel
theorem dTS_init_95 : decode prog_1_method_1_code 95 = .ok (.invokestatic 53, 3) := by decide +kernel
theorem dTS_init_98 : decode prog_1_method_1_code 98 = .ok (.putfield 59, 3) := by decide +kernel
theorem dTS_init_101 : decode prog_1_method_1_code 101 = .ok (.return_, 1) := by decide +kernel
theorem dTS_put_0 : decode prog_1_method_2_code 0 = .ok (.aload_n 0, 1) := by decide +kernel
theorem dTS_put_1 : decode prog_1_method_2_code 1 = .ok (.getfield 12, 3) := by decide +kernel
theorem dTS_put_4 : decode prog_1_method_2_code 4 = .ok (.getfield 62, 3) := by decide +kernel
theorem dTS_put_7 : decode prog_1_method_2_code 7 = .ok (.ifCond .eq (6), 3) := by decide +kernel
theorem dTS_put_10 : decode prog_1_method_2_code 10 = .ok (.bipush (-9), 2) := by decide +kernel
theorem dTS_put_12 : decode prog_1_method_2_code 12 = .ok (.ireturn, 1) := by decide +kernel
theorem dTS_put_13 : decode prog_1_method_2_code 13 = .ok (.iload_n 1, 1) := by decide +kernel
theorem dTS_put_14 : decode prog_1_method_2_code 14 = .ok (.invokestatic 66, 3) := by decide +kernel
theorem dTS_put_17 : decode prog_1_method_2_code 17 = .ok (.ifCond .ne (5), 3) := by decide +kernel
theorem dTS_put_20 : decode prog_1_method_2_code 20 = .ok (.iconst (-1), 1) := by decide +kernel
theorem dTS_put_21 : decode prog_1_method_2_code 21 = .ok (.ireturn, 1) := by decide +kernel
theorem dTS_put_22 : decode prog_1_method_2_code 22 = .ok (.aload_n 0, 1) := by decide +kernel
theorem dTS_put_23 : decode prog_1_method_2_code 23 = .ok (.aload_n 0, 1) := by decide +kernel
theorem dTS_put_24 : decode prog_1_method_2_code 24 = .ok (.iload_n 1, 1) := by decide +kernel
theorem dTS_put_25 : decode prog_1_method_2_code 25 = .ok (.iconst 1, 1) := by decide +kernel
theorem dTS_put_26 : decode prog_1_method_2_code 26 = .ok (.invokevirtual 70, 3) := by decide +kernel
theorem dTS_put_29 : decode prog_1_method_2_code 29 = .ok (.iload_n 1, 1) := by decide +kernel
theorem dTS_put_30 : decode prog_1_method_2_code 30 = .ok (.iload_n 2, 1) := by decide +kernel
theorem dTS_put_31 : decode prog_1_method_2_code 31 = .ok (.iconst 0, 1) := by decide +kernel
theorem dTS_put_32 : decode prog_1_method_2_code 32 = .ok (.invokevirtual 74, 3) := by decide +kernel
theorem dTS_put_35 : decode prog_1_method_2_code 35 = .ok (.ireturn, 1) := by decide +kernel
theorem dTS_add_0 : decode prog_1_method_3_code 0 = .ok (.aload_n 0, 1) := by decide +kernel
theorem dTS_add_1 : decode prog_1_method_3_code 1 = .ok (.getfield 12, 3) := by decide +kernel
theorem dTS_add_4 : decode prog_1_method_3_code 4 = .ok (.getfield 62, 3) := by decide +kernel
theorem dTS_add_7 : decode prog_1_method_3_code 7 = .ok (.ifCond .eq (6), 3) := by decide +kernel
theorem dTS_add_10 : decode prog_1_method_3_code 10 = .ok (.bipush (-9), 2) := by decide +kernel
theorem dTS_add_12 : decode prog_1_method_3_code 12 = .ok (.ireturn, 1) := by decide +kernel
theorem dTS_add_13 : decode prog_1_method_3_code 13 = .ok (.iload_n 1, 1) := by decide +kernel
theorem dTS_add_14 : decode prog_1_method_3_code 14 = .ok (.invokestatic 66, 3) := by decide +kernel
theorem dTS_add_17 : decode prog_1_method_3_code 17 = .ok (.ifCond .ne (5), 3) := by decide +kernel
theorem dTS_add_20 : decode prog_1_method_3_code 20 = .ok (.iconst (-1), 1) := by decide +kernel
theorem dTS_add_21 : decode prog_1_method_3_code 21 = .ok (.ireturn, 1) := by decide +kernel
theorem dTS_add_22 : decode prog_1_method_3_code 22 = .ok (.aload_n 0, 1) := by decide +kernel
theorem dTS_add_23 : decode prog_1_method_3_code 23 = .ok (.iload_n 1, 1) := by decide +kernel
theorem dTS_add_24 : decode prog_1_method_3_code 24 = .ok (.iconst 1, 1) := by decide +kernel
theorem dTS_add_25 : decode prog_1_method_3_code 25 = .ok (.invokevirtual 70, 3) := by decide +kernel
theorem dTS_add_28 : decode prog_1_method_3_code 28 = .ok (.istore_n 3, 1) := by decide +kernel
theorem dTS_add_29 : decode prog_1_method_3_code 29 = .ok (.aload_n 0, 1) := by decide +kernel
theorem dTS_add_30 : decode prog_1_method_3_code 30 = .ok (.iload_n 3, 1) := by decide +kernel
theorem dTS_add_31 : decode prog_1_method_3_code 31 = .ok (.invokevirtual 78, 3) := by decide +kernel
theorem dTS_add_34 : decode prog_1_method_3_code 34 = .ok (.ifCond .eq (17), 3) := by decide +kernel
theorem dTS_add_37 : decode prog_1_method_3_code 37 = .ok (.aload_n 0, 1) := by decide +kernel
theorem dTS_add_38 : decode prog_1_method_3_code 38 = .ok (.getfield 26, 3) := by decide +kernel
theorem dTS_add_41 : decode prog_1_method_3_code 41 = .ok (.getfield 81, 3) := by decide +kernel
theorem dTS_add_44 : decode prog_1_method_3_code 44 = .ok (.iload_n 3, 1) := by decide +kernel
theorem dTS_add_45 : decode prog_1_method_3_code 45 = .ok (.iaload, 1) := by decide +kernel
theorem dTS_add_46 : decode prog_1_method_3_code 46 = .ok (.iload_n 2, 1) := by decide +kernel
theorem dTS_add_47 : decode prog_1_method_3_code 47 = .ok (.iadd, 1) := by decide +kernel
theorem dTS_add_48 : decode prog_1_method_3_code 48 = .ok (.goto (4), 3) := by decide +kernel
theorem dTS_add_51 : decode prog_1_method_3_code 51 = .ok (.iload_n 2, 1) := by decide +kernel
theorem dTS_add_52 : decode prog_1_method_3_code 52 = .ok (.istore 4, 2) := by decide +kernel
theorem dTS_add_54 : decode prog_1_method_3_code 54 = .ok (.aload_n 0, 1) := by decide +kernel
theorem dTS_add_55 : decode prog_1_method_3_code 55 = .ok (.iload_n 3, 1) := by decide +kernel
theorem dTS_add_56 : decode prog_1_method_3_code 56 = .ok (.iload_n 1, 1) := by decide +kernel
theorem dTS_add_57 : decode prog_1_method_3_code 57 = .ok (.iload 4, 2) := by decide +kernel
theorem dTS_add_59 : decode prog_1_method_3_code 59 = .ok (.iconst 0, 1) := by decide +kernel
theorem dTS_add_60 : decode prog_1_method_3_code 60 = .ok (.invokevirtual 74, 3) := by decide +kernel
theorem dTS_add_63 : decode prog_1_method_3_code 63 = .ok (.ireturn, 1) := by decide +kernel
theorem dTS_delete_0 : decode prog_1_method_4_code 0 = .ok (.aload_n 0, 1) := by decide +kernel
theorem dTS_delete_1 : decode prog_1_method_4_code 1 = .ok (.getfield 12, 3) := by decide +kernel
theorem dTS_delete_4 : decode prog_1_method_4_code 4 = .ok (.getfield 62, 3) := by decide +kernel
theorem dTS_delete_7 : decode prog_1_method_4_code 7 = .ok (.ifCond .eq (6), 3) := by decide +kernel
theorem dTS_delete_10 : decode prog_1_method_4_code 10 = .ok (.bipush (-9), 2) := by decide +kernel
theorem dTS_delete_12 : decode prog_1_method_4_code 12 = .ok (.ireturn, 1) := by decide +kernel
theorem dTS_delete_13 : decode prog_1_method_4_code 13 = .ok (.iload_n 1, 1) := by decide +kernel
theorem dTS_delete_14 : decode prog_1_method_4_code 14 = .ok (.invokestatic 66, 3) := by decide +kernel
theorem dTS_delete_17 : decode prog_1_method_4_code 17 = .ok (.ifCond .ne (5), 3) := by decide +kernel
theorem dTS_delete_20 : decode prog_1_method_4_code 20 = .ok (.iconst (-1), 1) := by decide +kernel
theorem dTS_delete_21 : decode prog_1_method_4_code 21 = .ok (.ireturn, 1) := by decide +kernel
theorem dTS_delete_22 : decode prog_1_method_4_code 22 = .ok (.aload_n 0, 1) := by decide +kernel
theorem dTS_delete_23 : decode prog_1_method_4_code 23 = .ok (.iload_n 1, 1) := by decide +kernel
theorem dTS_delete_24 : decode prog_1_method_4_code 24 = .ok (.iconst 1, 1) := by decide +kernel
theorem dTS_delete_25 : decode prog_1_method_4_code 25 = .ok (.invokevirtual 70, 3) := by decide +kernel
theorem dTS_delete_28 : decode prog_1_method_4_code 28 = .ok (.istore_n 2, 1) := by decide +kernel
theorem dTS_delete_29 : decode prog_1_method_4_code 29 = .ok (.aload_n 0, 1) := by decide +kernel
theorem dTS_delete_30 : decode prog_1_method_4_code 30 = .ok (.iload_n 2, 1) := by decide +kernel
theorem dTS_delete_31 : decode prog_1_method_4_code 31 = .ok (.invokevirtual 78, 3) := by decide +kernel
theorem dTS_delete_34 : decode prog_1_method_4_code 34 = .ok (.ifCond .eq (14), 3) := by decide +kernel
theorem dTS_delete_37 : decode prog_1_method_4_code 37 = .ok (.aload_n 0, 1) := by decide +kernel
theorem dTS_delete_38 : decode prog_1_method_4_code 38 = .ok (.iload_n 2, 1) := by decide +kernel
theorem dTS_delete_39 : decode prog_1_method_4_code 39 = .ok (.iload_n 1, 1) := by decide +kernel
theorem dTS_delete_40 : decode prog_1_method_4_code 40 = .ok (.iconst 0, 1) := by decide +kernel
theorem dTS_delete_41 : decode prog_1_method_4_code 41 = .ok (.iconst 1, 1) := by decide +kernel
theorem dTS_delete_42 : decode prog_1_method_4_code 42 = .ok (.invokevirtual 74, 3) := by decide +kernel
theorem dTS_delete_45 : decode prog_1_method_4_code 45 = .ok (.goto (4), 3) := by decide +kernel
theorem dTS_delete_48 : decode prog_1_method_4_code 48 = .ok (.iconst 0, 1) := by decide +kernel
theorem dTS_delete_49 : decode prog_1_method_4_code 49 = .ok (.ireturn, 1) := by decide +kernel
theorem dTS_read_0 : decode prog_1_method_5_code 0 = .ok (.aload_n 0, 1) := by decide +kernel
theorem dTS_read_1 : decode prog_1_method_5_code 1 = .ok (.getfield 12, 3) := by decide +kernel
theorem dTS_read_4 : decode prog_1_method_5_code 4 = .ok (.getfield 62, 3) := by decide +kernel
theorem dTS_read_7 : decode prog_1_method_5_code 7 = .ok (.ifCond .eq (6), 3) := by decide +kernel
theorem dTS_read_10 : decode prog_1_method_5_code 10 = .ok (.bipush (-9), 2) := by decide +kernel
theorem dTS_read_12 : decode prog_1_method_5_code 12 = .ok (.ireturn, 1) := by decide +kernel
theorem dTS_read_13 : decode prog_1_method_5_code 13 = .ok (.iload_n 1, 1) := by decide +kernel
theorem dTS_read_14 : decode prog_1_method_5_code 14 = .ok (.invokestatic 66, 3) := by decide +kernel
theorem dTS_read_17 : decode prog_1_method_5_code 17 = .ok (.ifCond .ne (5), 3) := by decide +kernel
theorem dTS_read_20 : decode prog_1_method_5_code 20 = .ok (.iconst (-1), 1) := by decide +kernel
theorem dTS_read_21 : decode prog_1_method_5_code 21 = .ok (.ireturn, 1) := by decide +kernel
theorem dTS_read_22 : decode prog_1_method_5_code 22 = .ok (.aload_n 0, 1) := by decide +kernel
theorem dTS_read_23 : decode prog_1_method_5_code 23 = .ok (.iload_n 1, 1) := by decide +kernel
theorem dTS_read_24 : decode prog_1_method_5_code 24 = .ok (.iconst 1, 1) := by decide +kernel
theorem dTS_read_25 : decode prog_1_method_5_code 25 = .ok (.invokevirtual 70, 3) := by decide +kernel
theorem dTS_read_28 : decode prog_1_method_5_code 28 = .ok (.istore_n 2, 1) := by decide +kernel
theorem dTS_read_29 : decode prog_1_method_5_code 29 = .ok (.aload_n 0, 1) := by decide +kernel
theorem dTS_read_30 : decode prog_1_method_5_code 30 = .ok (.iload_n 2, 1) := by decide +kernel
theorem dTS_read_31 : decode prog_1_method_5_code 31 = .ok (.invokevirtual 78, 3) := by decide +kernel
theorem dTS_read_34 : decode prog_1_method_5_code 34 = .ok (.ifCond .ne (5), 3) := by decide +kernel
theorem dTS_read_37 : decode prog_1_method_5_code 37 = .ok (.iconst 0, 1) := by decide +kernel
theorem dTS_read_38 : decode prog_1_method_5_code 38 = .ok (.ireturn, 1) := by decide +kernel
theorem dTS_read_39 : decode prog_1_method_5_code 39 = .ok (.aload_n 0, 1) := by decide +kernel
theorem dTS_read_40 : decode prog_1_method_5_code 40 = .ok (.aload_n 0, 1) := by decide +kernel
theorem dTS_read_41 : decode prog_1_method_5_code 41 = .ok (.getfield 26, 3) := by decide +kernel
theorem dTS_read_44 : decode prog_1_method_5_code 44 = .ok (.getfield 81, 3) := by decide +kernel
theorem dTS_read_47 : decode prog_1_method_5_code 47 = .ok (.iload_n 2, 1) := by decide +kernel
theorem dTS_read_48 : decode prog_1_method_5_code 48 = .ok (.iaload, 1) := by decide +kernel
theorem dTS_read_49 : decode prog_1_method_5_code 49 = .ok (.putfield 85, 3) := by decide +kernel
theorem dTS_read_52 : decode prog_1_method_5_code 52 = .ok (.iload_n 2, 1) := by decide +kernel
theorem dTS_read_53 : decode prog_1_method_5_code 53 = .ok (.aload_n 0, 1) := by decide +kernel
theorem dTS_read_54 : decode prog_1_method_5_code 54 = .ok (.getfield 88, 3) := by decide +kernel
theorem dTS_read_57 : decode prog_1_method_5_code 57 = .ok (.if_icmp .lt (7), 3) := by decide +kernel
theorem dTS_read_60 : decode prog_1_method_5_code 60 = .ok (.iconst 1, 1) := by decide +kernel
theorem dTS_read_61 : decode prog_1_method_5_code 61 = .ok (.goto (16), 3) := by decide +kernel
theorem dTS_read_64 : decode prog_1_method_5_code 64 = .ok (.iload_n 2, 1) := by decide +kernel
theorem dTS_read_65 : decode prog_1_method_5_code 65 = .ok (.aload_n 0, 1) := by decide +kernel
theorem dTS_read_66 : decode prog_1_method_5_code 66 = .ok (.getfield 91, 3) := by decide +kernel
theorem dTS_read_69 : decode prog_1_method_5_code 69 = .ok (.if_icmp .lt (7), 3) := by decide +kernel
theorem dTS_read_72 : decode prog_1_method_5_code 72 = .ok (.iconst 2, 1) := by decide +kernel
theorem dTS_read_73 : decode prog_1_method_5_code 73 = .ok (.goto (4), 3) := by decide +kernel
theorem dTS_read_76 : decode prog_1_method_5_code 76 = .ok (.iconst 3, 1) := by decide +kernel
theorem dTS_read_77 : decode prog_1_method_5_code 77 = .ok (.ireturn, 1) := by decide +kernel
theorem dTS_value_0 : decode prog_1_method_6_code 0 = .ok (.aload_n 0, 1) := by decide +kernel
theorem dTS_value_1 : decode prog_1_method_6_code 1 = .ok (.getfield 85, 3) := by decide +kernel
theorem dTS_value_4 : decode prog_1_method_6_code 4 = .ok (.ireturn, 1) := by decide +kernel
theorem dTS_checkpoint_0 : decode prog_1_method_7_code 0 = .ok (.aload_n 0, 1) := by decide +kernel
theorem dTS_checkpoint_1 : decode prog_1_method_7_code 1 = .ok (.getfield 12, 3) := by decide +kernel
theorem dTS_checkpoint_4 : decode prog_1_method_7_code 4 = .ok (.getfield 62, 3) := by decide +kernel
theorem dTS_checkpoint_7 : decode prog_1_method_7_code 7 = .ok (.ifCond .eq (6), 3) := by decide +kernel
theorem dTS_checkpoint_10 : decode prog_1_method_7_code 10 = .ok (.bipush (-9), 2) := by decide +kernel
theorem dTS_checkpoint_12 : decode prog_1_method_7_code 12 = .ok (.ireturn, 1) := by decide +kernel
theorem dTS_checkpoint_13 : decode prog_1_method_7_code 13 = .ok (.aload_n 0, 1) := by decide +kernel
theorem dTS_checkpoint_14 : decode prog_1_method_7_code 14 = .ok (.getfield 44, 3) := by decide +kernel
theorem dTS_checkpoint_17 : decode prog_1_method_7_code 17 = .ok (.ifCond .eq (6), 3) := by decide +kernel
theorem dTS_checkpoint_20 : decode prog_1_method_7_code 20 = .ok (.bipush (-3), 2) := by decide +kernel
theorem dTS_checkpoint_22 : decode prog_1_method_7_code 22 = .ok (.ireturn, 1) := by decide +kernel
theorem dTS_checkpoint_23 : decode prog_1_method_7_code 23 = .ok (.aload_n 0, 1) := by decide +kernel
theorem dTS_checkpoint_24 : decode prog_1_method_7_code 24 = .ok (.getfield 41, 3) := by decide +kernel
theorem dTS_checkpoint_27 : decode prog_1_method_7_code 27 = .ok (.aload_n 0, 1) := by decide +kernel
theorem dTS_checkpoint_28 : decode prog_1_method_7_code 28 = .ok (.getfield 30, 3) := by decide +kernel
theorem dTS_checkpoint_31 : decode prog_1_method_7_code 31 = .ok (.putfield 94, 3) := by decide +kernel
theorem dTS_checkpoint_34 : decode prog_1_method_7_code 34 = .ok (.aload_n 0, 1) := by decide +kernel
theorem dTS_checkpoint_35 : decode prog_1_method_7_code 35 = .ok (.getfield 41, 3) := by decide +kernel
theorem dTS_checkpoint_38 : decode prog_1_method_7_code 38 = .ok (.aload_n 0, 1) := by decide +kernel
theorem dTS_checkpoint_39 : decode prog_1_method_7_code 39 = .ok (.getfield 95, 3) := by decide +kernel
theorem dTS_checkpoint_42 : decode prog_1_method_7_code 42 = .ok (.putfield 98, 3) := by decide +kernel
theorem dTS_checkpoint_45 : decode prog_1_method_7_code 45 = .ok (.aload_n 0, 1) := by decide +kernel
theorem dTS_checkpoint_46 : decode prog_1_method_7_code 46 = .ok (.getfield 41, 3) := by decide +kernel
theorem dTS_checkpoint_49 : decode prog_1_method_7_code 49 = .ok (.aload_n 0, 1) := by decide +kernel
theorem dTS_checkpoint_50 : decode prog_1_method_7_code 50 = .ok (.getfield 99, 3) := by decide +kernel
theorem dTS_checkpoint_53 : decode prog_1_method_7_code 53 = .ok (.putfield 102, 3) := by decide +kernel
theorem dTS_checkpoint_56 : decode prog_1_method_7_code 56 = .ok (.aload_n 0, 1) := by decide +kernel
theorem dTS_checkpoint_57 : decode prog_1_method_7_code 57 = .ok (.getfield 41, 3) := by decide +kernel
theorem dTS_checkpoint_60 : decode prog_1_method_7_code 60 = .ok (.getfield 105, 3) := by decide +kernel
theorem dTS_checkpoint_63 : decode prog_1_method_7_code 63 = .ok (.aload_n 0, 1) := by decide +kernel
theorem dTS_checkpoint_64 : decode prog_1_method_7_code 64 = .ok (.getfield 19, 3) := by decide +kernel
theorem dTS_checkpoint_67 : decode prog_1_method_7_code 67 = .ok (.getfield 108, 3) := by decide +kernel
theorem dTS_checkpoint_70 : decode prog_1_method_7_code 70 = .ok (.putfield 108, 3) := by decide +kernel
theorem dTS_checkpoint_73 : decode prog_1_method_7_code 73 = .ok (.aload_n 0, 1) := by decide +kernel
theorem dTS_checkpoint_74 : decode prog_1_method_7_code 74 = .ok (.getfield 41, 3) := by decide +kernel
theorem dTS_checkpoint_77 : decode prog_1_method_7_code 77 = .ok (.getfield 105, 3) := by decide +kernel
theorem dTS_checkpoint_80 : decode prog_1_method_7_code 80 = .ok (.aload_n 0, 1) := by decide +kernel
theorem dTS_checkpoint_81 : decode prog_1_method_7_code 81 = .ok (.getfield 19, 3) := by decide +kernel
theorem dTS_checkpoint_84 : decode prog_1_method_7_code 84 = .ok (.getfield 111, 3) := by decide +kernel
theorem dTS_checkpoint_87 : decode prog_1_method_7_code 87 = .ok (.putfield 111, 3) := by decide +kernel
theorem dTS_checkpoint_90 : decode prog_1_method_7_code 90 = .ok (.aload_n 0, 1) := by decide +kernel
theorem dTS_checkpoint_91 : decode prog_1_method_7_code 91 = .ok (.dup, 1) := by decide +kernel
theorem dTS_checkpoint_92 : decode prog_1_method_7_code 92 = .ok (.getfield 30, 3) := by decide +kernel
theorem dTS_checkpoint_95 : decode prog_1_method_7_code 95 = .ok (.iconst 1, 1) := by decide +kernel
theorem dTS_checkpoint_96 : decode prog_1_method_7_code 96 = .ok (.iadd, 1) := by decide +kernel
theorem dTS_checkpoint_97 : decode prog_1_method_7_code 97 = .ok (.putfield 30, 3) := by decide +kernel
theorem dTS_checkpoint_100 : decode prog_1_method_7_code 100 = .ok (.aload_n 0, 1) := by decide +kernel
theorem dTS_checkpoint_101 : decode prog_1_method_7_code 101 = .ok (.iconst 0, 1) := by decide +kernel
theorem dTS_checkpoint_102 : decode prog_1_method_7_code 102 = .ok (.putfield 114, 3) := by decide +kernel
theorem dTS_checkpoint_105 : decode prog_1_method_7_code 105 = .ok (.aload_n 0, 1) := by decide +kernel
theorem dTS_checkpoint_106 : decode prog_1_method_7_code 106 = .ok (.iconst 0, 1) := by decide +kernel
theorem dTS_checkpoint_107 : decode prog_1_method_7_code 107 = .ok (.putfield 117, 3) := by decide +kernel
theorem dTS_checkpoint_110 : decode prog_1_method_7_code 110 = .ok (.aload_n 0, 1) := by decide +kernel
theorem dTS_checkpoint_111 : decode prog_1_method_7_code 111 = .ok (.iconst 1, 1) := by decide +kernel
theorem dTS_checkpoint_112 : decode prog_1_method_7_code 112 = .ok (.putfield 44, 3) := by decide +kernel
theorem dTS_checkpoint_115 : decode prog_1_method_7_code 115 = .ok (.aload_n 0, 1) := by decide +kernel
theorem dTS_checkpoint_116 : decode prog_1_method_7_code 116 = .ok (.getfield 41, 3) := by decide +kernel
theorem dTS_checkpoint_119 : decode prog_1_method_7_code 119 = .ok (.getfield 94, 3) := by decide +kernel
theorem dTS_checkpoint_122 : decode prog_1_method_7_code 122 = .ok (.ireturn, 1) := by decide +kernel
theorem dTS_step_0 : decode prog_1_method_8_code 0 = .ok (.aload_n 0, 1) := by decide +kernel
theorem dTS_step_1 : decode prog_1_method_8_code 1 = .ok (.getfield 12, 3) := by decide +kernel
theorem dTS_step_4 : decode prog_1_method_8_code 4 = .ok (.getfield 62, 3) := by decide +kernel
theorem dTS_step_7 : decode prog_1_method_8_code 7 = .ok (.ifCond .eq (6), 3) := by decide +kernel
theorem dTS_step_10 : decode prog_1_method_8_code 10 = .ok (.bipush (-9), 2) := by decide +kernel
theorem dTS_step_12 : decode prog_1_method_8_code 12 = .ok (.ireturn, 1) := by decide +kernel
theorem dTS_step_13 : decode prog_1_method_8_code 13 = .ok (.aload_n 0, 1) := by decide +kernel
theorem dTS_step_14 : decode prog_1_method_8_code 14 = .ok (.getfield 44, 3) := by decide +kernel
theorem dTS_step_17 : decode prog_1_method_8_code 17 = .ok (.istore_n 1, 1) := by decide +kernel
theorem dTS_step_18 : decode prog_1_method_8_code 18 = .ok (.iload_n 1, 1) := by decide +kernel
theorem dTS_step_19 : decode prog_1_method_8_code 19 = .ok (.tableswitch 67 1 3 #[25, 39, 53], 25) := by decide +kernel
theorem dTS_step_44 : decode prog_1_method_8_code 44 = .ok (.aload_n 0, 1) := by decide +kernel
theorem dTS_step_45 : decode prog_1_method_8_code 45 = .ok (.invokevirtual 120, 3) := by decide +kernel
theorem dTS_step_48 : decode prog_1_method_8_code 48 = .ok (.ifCond .eq (7), 3) := by decide +kernel
theorem dTS_step_51 : decode prog_1_method_8_code 51 = .ok (.iload_n 1, 1) := by decide +kernel
theorem dTS_step_52 : decode prog_1_method_8_code 52 = .ok (.goto (5), 3) := by decide +kernel
theorem dTS_step_55 : decode prog_1_method_8_code 55 = .ok (.bipush (-9), 2) := by decide +kernel
theorem dTS_step_57 : decode prog_1_method_8_code 57 = .ok (.ireturn, 1) := by decide +kernel
theorem dTS_step_58 : decode prog_1_method_8_code 58 = .ok (.aload_n 0, 1) := by decide +kernel
theorem dTS_step_59 : decode prog_1_method_8_code 59 = .ok (.invokevirtual 124, 3) := by decide +kernel
theorem dTS_step_62 : decode prog_1_method_8_code 62 = .ok (.ifCond .eq (7), 3) := by decide +kernel
theorem dTS_step_65 : decode prog_1_method_8_code 65 = .ok (.iload_n 1, 1) := by decide +kernel
theorem dTS_step_66 : decode prog_1_method_8_code 66 = .ok (.goto (5), 3) := by decide +kernel
theorem dTS_step_69 : decode prog_1_method_8_code 69 = .ok (.bipush (-9), 2) := by decide +kernel
theorem dTS_step_71 : decode prog_1_method_8_code 71 = .ok (.ireturn, 1) := by decide +kernel
theorem dTS_step_72 : decode prog_1_method_8_code 72 = .ok (.aload_n 0, 1) := by decide +kernel
theorem dTS_step_73 : decode prog_1_method_8_code 73 = .ok (.invokevirtual 127, 3) := by decide +kernel
theorem dTS_step_76 : decode prog_1_method_8_code 76 = .ok (.ifCond .eq (7), 3) := by decide +kernel
theorem dTS_step_79 : decode prog_1_method_8_code 79 = .ok (.iload_n 1, 1) := by decide +kernel
theorem dTS_step_80 : decode prog_1_method_8_code 80 = .ok (.goto (5), 3) := by decide +kernel
theorem dTS_step_83 : decode prog_1_method_8_code 83 = .ok (.bipush (-9), 2) := by decide +kernel
theorem dTS_step_85 : decode prog_1_method_8_code 85 = .ok (.ireturn, 1) := by decide +kernel
theorem dTS_step_86 : decode prog_1_method_8_code 86 = .ok (.bipush (-3), 2) := by decide +kernel
theorem dTS_step_88 : decode prog_1_method_8_code 88 = .ok (.ireturn, 1) := by decide +kernel
theorem dTS_grow_0 : decode prog_1_method_9_code 0 = .ok (.aload_n 0, 1) := by decide +kernel
theorem dTS_grow_1 : decode prog_1_method_9_code 1 = .ok (.getfield 12, 3) := by decide +kernel
theorem dTS_grow_4 : decode prog_1_method_9_code 4 = .ok (.getfield 62, 3) := by decide +kernel
theorem dTS_grow_7 : decode prog_1_method_9_code 7 = .ok (.ifCond .eq (6), 3) := by decide +kernel
theorem dTS_grow_10 : decode prog_1_method_9_code 10 = .ok (.bipush (-9), 2) := by decide +kernel
theorem dTS_grow_12 : decode prog_1_method_9_code 12 = .ok (.ireturn, 1) := by decide +kernel
theorem dTS_grow_13 : decode prog_1_method_9_code 13 = .ok (.aload_n 0, 1) := by decide +kernel
theorem dTS_grow_14 : decode prog_1_method_9_code 14 = .ok (.getfield 44, 3) := by decide +kernel
theorem dTS_grow_17 : decode prog_1_method_9_code 17 = .ok (.ifCond .ne (15), 3) := by decide +kernel
theorem dTS_grow_20 : decode prog_1_method_9_code 20 = .ok (.aload_n 0, 1) := by decide +kernel
theorem dTS_grow_21 : decode prog_1_method_9_code 21 = .ok (.getfield 19, 3) := by decide +kernel
theorem dTS_grow_24 : decode prog_1_method_9_code 24 = .ok (.invokevirtual 130, 3) := by decide +kernel
theorem dTS_grow_27 : decode prog_1_method_9_code 27 = .ok (.bipush 16, 2) := by decide +kernel
theorem dTS_grow_29 : decode prog_1_method_9_code 29 = .ok (.if_icmp .lt (6), 3) := by decide +kernel
theorem dTS_grow_32 : decode prog_1_method_9_code 32 = .ok (.bipush (-3), 2) := by decide +kernel
theorem dTS_grow_34 : decode prog_1_method_9_code 34 = .ok (.ireturn, 1) := by decide +kernel
theorem dTS_grow_35 : decode prog_1_method_9_code 35 = .ok (.aload_n 0, 1) := by decide +kernel
theorem dTS_grow_36 : decode prog_1_method_9_code 36 = .ok (.getfield 19, 3) := by decide +kernel
theorem dTS_grow_39 : decode prog_1_method_9_code 39 = .ok (.invokevirtual 134, 3) := by decide +kernel
theorem dTS_grow_42 : decode prog_1_method_9_code 42 = .ok (.aload_n 0, 1) := by decide +kernel
theorem dTS_grow_43 : decode prog_1_method_9_code 43 = .ok (.getfield 19, 3) := by decide +kernel
theorem dTS_grow_46 : decode prog_1_method_9_code 46 = .ok (.invokevirtual 130, 3) := by decide +kernel
theorem dTS_grow_49 : decode prog_1_method_9_code 49 = .ok (.ireturn, 1) := by decide +kernel
