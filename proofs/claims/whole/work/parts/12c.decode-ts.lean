theorem dTS_isKey_14 : decode prog_1_method_17_code 14 = .ok (.iconst 0, 1) := by decide +kernel
theorem dTS_isKey_15 : decode prog_1_method_17_code 15 = .ok (.ireturn, 1) := by decide +kernel
theorem dTS_pageEnd_0 : decode prog_1_method_18_code 0 = .ok (.iload_n 0, 1) := by decide +kernel
theorem dTS_pageEnd_1 : decode prog_1_method_18_code 1 = .ok (.iload_n 0, 1) := by decide +kernel
theorem dTS_pageEnd_2 : decode prog_1_method_18_code 2 = .ok (.iconst 4, 1) := by decide +kernel
theorem dTS_pageEnd_3 : decode prog_1_method_18_code 3 = .ok (.irem, 1) := by decide +kernel
theorem dTS_pageEnd_4 : decode prog_1_method_18_code 4 = .ok (.isub, 1) := by decide +kernel
theorem dTS_pageEnd_5 : decode prog_1_method_18_code 5 = .ok (.iconst 4, 1) := by decide +kernel
theorem dTS_pageEnd_6 : decode prog_1_method_18_code 6 = .ok (.iadd, 1) := by decide +kernel
theorem dTS_pageEnd_7 : decode prog_1_method_18_code 7 = .ok (.ireturn, 1) := by decide +kernel
theorem dTS_find_0 : decode prog_1_method_19_code 0 = .ok (.aload_n 0, 1) := by decide +kernel
theorem dTS_find_1 : decode prog_1_method_19_code 1 = .ok (.getfield 19, 3) := by decide +kernel
theorem dTS_find_4 : decode prog_1_method_19_code 4 = .ok (.getfield 176, 3) := by decide +kernel
theorem dTS_find_7 : decode prog_1_method_19_code 7 = .ok (.aload_n 0, 1) := by decide +kernel
theorem dTS_find_8 : decode prog_1_method_19_code 8 = .ok (.getfield 19, 3) := by decide +kernel
theorem dTS_find_11 : decode prog_1_method_19_code 11 = .ok (.iload_n 1, 1) := by decide +kernel
theorem dTS_find_12 : decode prog_1_method_19_code 12 = .ok (.invokevirtual 185, 3) := by decide +kernel
theorem dTS_find_15 : decode prog_1_method_19_code 15 = .ok (.iaload, 1) := by decide +kernel
theorem dTS_find_16 : decode prog_1_method_19_code 16 = .ok (.istore_n 3, 1) := by decide +kernel
theorem dTS_find_17 : decode prog_1_method_19_code 17 = .ok (.iconst 0, 1) := by decide +kernel
theorem dTS_find_18 : decode prog_1_method_19_code 18 = .ok (.istore 4, 2) := by decide +kernel
theorem dTS_find_20 : decode prog_1_method_19_code 20 = .ok (.iload 4, 2) := by decide +kernel
theorem dTS_find_22 : decode prog_1_method_19_code 22 = .ok (.sipush 400, 3) := by decide +kernel
theorem dTS_find_25 : decode prog_1_method_19_code 25 = .ok (.if_icmp .ge (67), 3) := by decide +kernel
theorem dTS_find_28 : decode prog_1_method_19_code 28 = .ok (.iload_n 3, 1) := by decide +kernel
theorem dTS_find_29 : decode prog_1_method_19_code 29 = .ok (.aload_n 0, 1) := by decide +kernel
theorem dTS_find_30 : decode prog_1_method_19_code 30 = .ok (.getfield 95, 3) := by decide +kernel
theorem dTS_find_33 : decode prog_1_method_19_code 33 = .ok (.if_icmp .lt (59), 3) := by decide +kernel
theorem dTS_find_36 : decode prog_1_method_19_code 36 = .ok (.iload_n 2, 1) := by decide +kernel
theorem dTS_find_37 : decode prog_1_method_19_code 37 = .ok (.ifCond .eq (24), 3) := by decide +kernel
theorem dTS_find_40 : decode prog_1_method_19_code 40 = .ok (.iload_n 3, 1) := by decide +kernel
theorem dTS_find_41 : decode prog_1_method_19_code 41 = .ok (.aload_n 0, 1) := by decide +kernel
theorem dTS_find_42 : decode prog_1_method_19_code 42 = .ok (.getfield 91, 3) := by decide +kernel
theorem dTS_find_45 : decode prog_1_method_19_code 45 = .ok (.if_icmp .ge (16), 3) := by decide +kernel
theorem dTS_find_48 : decode prog_1_method_19_code 48 = .ok (.aload_n 0, 1) := by decide +kernel
theorem dTS_find_49 : decode prog_1_method_19_code 49 = .ok (.getfield 12, 3) := by decide +kernel
theorem dTS_find_52 : decode prog_1_method_19_code 52 = .ok (.dup, 1) := by decide +kernel
theorem dTS_find_53 : decode prog_1_method_19_code 53 = .ok (.getfield 141, 3) := by decide +kernel
theorem dTS_find_56 : decode prog_1_method_19_code 56 = .ok (.iconst 1, 1) := by decide +kernel
theorem dTS_find_57 : decode prog_1_method_19_code 57 = .ok (.iadd, 1) := by decide +kernel
theorem dTS_find_58 : decode prog_1_method_19_code 58 = .ok (.putfield 141, 3) := by decide +kernel
theorem dTS_find_61 : decode prog_1_method_19_code 61 = .ok (.aload_n 0, 1) := by decide +kernel
theorem dTS_find_62 : decode prog_1_method_19_code 62 = .ok (.getfield 26, 3) := by decide +kernel
theorem dTS_find_65 : decode prog_1_method_19_code 65 = .ok (.getfield 147, 3) := by decide +kernel
theorem dTS_find_68 : decode prog_1_method_19_code 68 = .ok (.iload_n 3, 1) := by decide +kernel
theorem dTS_find_69 : decode prog_1_method_19_code 69 = .ok (.iaload, 1) := by decide +kernel
theorem dTS_find_70 : decode prog_1_method_19_code 70 = .ok (.iload_n 1, 1) := by decide +kernel
theorem dTS_find_71 : decode prog_1_method_19_code 71 = .ok (.if_icmp .ne (5), 3) := by decide +kernel
theorem dTS_find_74 : decode prog_1_method_19_code 74 = .ok (.iload_n 3, 1) := by decide +kernel
theorem dTS_find_75 : decode prog_1_method_19_code 75 = .ok (.ireturn, 1) := by decide +kernel
theorem dTS_find_76 : decode prog_1_method_19_code 76 = .ok (.aload_n 0, 1) := by decide +kernel
theorem dTS_find_77 : decode prog_1_method_19_code 77 = .ok (.getfield 26, 3) := by decide +kernel
theorem dTS_find_80 : decode prog_1_method_19_code 80 = .ok (.getfield 166, 3) := by decide +kernel
theorem dTS_find_83 : decode prog_1_method_19_code 83 = .ok (.iload_n 3, 1) := by decide +kernel
theorem dTS_find_84 : decode prog_1_method_19_code 84 = .ok (.iaload, 1) := by decide +kernel
theorem dTS_find_85 : decode prog_1_method_19_code 85 = .ok (.istore_n 3, 1) := by decide +kernel
theorem dTS_find_86 : decode prog_1_method_19_code 86 = .ok (.iinc 4 1, 3) := by decide +kernel
theorem dTS_find_89 : decode prog_1_method_19_code 89 = .ok (.goto (-69), 3) := by decide +kernel
theorem dTS_find_92 : decode prog_1_method_19_code 92 = .ok (.iconst (-1), 1) := by decide +kernel
theorem dTS_find_93 : decode prog_1_method_19_code 93 = .ok (.ireturn, 1) := by decide +kernel
theorem dTS_hasValue_0 : decode prog_1_method_20_code 0 = .ok (.iload_n 1, 1) := by decide +kernel
theorem dTS_hasValue_1 : decode prog_1_method_20_code 1 = .ok (.iconst (-1), 1) := by decide +kernel
theorem dTS_hasValue_2 : decode prog_1_method_20_code 2 = .ok (.if_icmp .eq (19), 3) := by decide +kernel
theorem dTS_hasValue_5 : decode prog_1_method_20_code 5 = .ok (.aload_n 0, 1) := by decide +kernel
theorem dTS_hasValue_6 : decode prog_1_method_20_code 6 = .ok (.getfield 26, 3) := by decide +kernel
theorem dTS_hasValue_9 : decode prog_1_method_20_code 9 = .ok (.getfield 172, 3) := by decide +kernel
theorem dTS_hasValue_12 : decode prog_1_method_20_code 12 = .ok (.iload_n 1, 1) := by decide +kernel
theorem dTS_hasValue_13 : decode prog_1_method_20_code 13 = .ok (.baload, 1) := by decide +kernel
theorem dTS_hasValue_14 : decode prog_1_method_20_code 14 = .ok (.ifCond .ne (7), 3) := by decide +kernel
theorem dTS_hasValue_17 : decode prog_1_method_20_code 17 = .ok (.iconst 1, 1) := by decide +kernel
theorem dTS_hasValue_18 : decode prog_1_method_20_code 18 = .ok (.goto (4), 3) := by decide +kernel
theorem dTS_hasValue_21 : decode prog_1_method_20_code 21 = .ok (.iconst 0, 1) := by decide +kernel
theorem dTS_hasValue_22 : decode prog_1_method_20_code 22 = .ok (.ireturn, 1) := by decide +kernel
theorem dTS_isLatest_0 : decode prog_1_method_21_code 0 = .ok (.aload_n 0, 1) := by decide +kernel
theorem dTS_isLatest_1 : decode prog_1_method_21_code 1 = .ok (.iload_n 1, 1) := by decide +kernel
theorem dTS_isLatest_2 : decode prog_1_method_21_code 2 = .ok (.invokevirtual 78, 3) := by decide +kernel
theorem dTS_isLatest_5 : decode prog_1_method_21_code 5 = .ok (.ifCond .eq (25), 3) := by decide +kernel
theorem dTS_isLatest_8 : decode prog_1_method_21_code 8 = .ok (.aload_n 0, 1) := by decide +kernel
theorem dTS_isLatest_9 : decode prog_1_method_21_code 9 = .ok (.aload_n 0, 1) := by decide +kernel
theorem dTS_isLatest_10 : decode prog_1_method_21_code 10 = .ok (.getfield 26, 3) := by decide +kernel
theorem dTS_isLatest_13 : decode prog_1_method_21_code 13 = .ok (.getfield 147, 3) := by decide +kernel
theorem dTS_isLatest_16 : decode prog_1_method_21_code 16 = .ok (.iload_n 1, 1) := by decide +kernel
theorem dTS_isLatest_17 : decode prog_1_method_21_code 17 = .ok (.iaload, 1) := by decide +kernel
theorem dTS_isLatest_18 : decode prog_1_method_21_code 18 = .ok (.iconst 0, 1) := by decide +kernel
theorem dTS_isLatest_19 : decode prog_1_method_21_code 19 = .ok (.invokevirtual 70, 3) := by decide +kernel
theorem dTS_isLatest_22 : decode prog_1_method_21_code 22 = .ok (.iload_n 1, 1) := by decide +kernel
theorem dTS_isLatest_23 : decode prog_1_method_21_code 23 = .ok (.if_icmp .ne (7), 3) := by decide +kernel
theorem dTS_isLatest_26 : decode prog_1_method_21_code 26 = .ok (.iconst 1, 1) := by decide +kernel
theorem dTS_isLatest_27 : decode prog_1_method_21_code 27 = .ok (.goto (4), 3) := by decide +kernel
theorem dTS_isLatest_30 : decode prog_1_method_21_code 30 = .ok (.iconst 0, 1) := by decide +kernel
theorem dTS_isLatest_31 : decode prog_1_method_21_code 31 = .ok (.ireturn, 1) := by decide +kernel
theorem dTS_keysWithValue_0 : decode prog_1_method_22_code 0 = .ok (.iconst 0, 1) := by decide +kernel
theorem dTS_keysWithValue_1 : decode prog_1_method_22_code 1 = .ok (.istore_n 1, 1) := by decide +kernel
theorem dTS_keysWithValue_2 : decode prog_1_method_22_code 2 = .ok (.iconst 0, 1) := by decide +kernel
theorem dTS_keysWithValue_3 : decode prog_1_method_22_code 3 = .ok (.istore_n 2, 1) := by decide +kernel
theorem dTS_keysWithValue_4 : decode prog_1_method_22_code 4 = .ok (.iload_n 2, 1) := by decide +kernel
theorem dTS_keysWithValue_5 : decode prog_1_method_22_code 5 = .ok (.bipush 32, 2) := by decide +kernel
theorem dTS_keysWithValue_7 : decode prog_1_method_22_code 7 = .ok (.if_icmp .ge (25), 3) := by decide +kernel
theorem dTS_keysWithValue_10 : decode prog_1_method_22_code 10 = .ok (.aload_n 0, 1) := by decide +kernel
theorem dTS_keysWithValue_11 : decode prog_1_method_22_code 11 = .ok (.aload_n 0, 1) := by decide +kernel
theorem dTS_keysWithValue_12 : decode prog_1_method_22_code 12 = .ok (.iload_n 2, 1) := by decide +kernel
theorem dTS_keysWithValue_13 : decode prog_1_method_22_code 13 = .ok (.iconst 0, 1) := by decide +kernel
theorem dTS_keysWithValue_14 : decode prog_1_method_22_code 14 = .ok (.invokevirtual 70, 3) := by decide +kernel
theorem dTS_keysWithValue_17 : decode prog_1_method_22_code 17 = .ok (.invokevirtual 78, 3) := by decide +kernel
theorem dTS_keysWithValue_20 : decode prog_1_method_22_code 20 = .ok (.ifCond .eq (6), 3) := by decide +kernel
theorem dTS_keysWithValue_23 : decode prog_1_method_22_code 23 = .ok (.iinc 1 1, 3) := by decide +kernel
theorem dTS_keysWithValue_26 : decode prog_1_method_22_code 26 = .ok (.iinc 2 1, 3) := by decide +kernel
theorem dTS_keysWithValue_29 : decode prog_1_method_22_code 29 = .ok (.goto (-25), 3) := by decide +kernel
theorem dTS_keysWithValue_32 : decode prog_1_method_22_code 32 = .ok (.iload_n 1, 1) := by decide +kernel
theorem dTS_keysWithValue_33 : decode prog_1_method_22_code 33 = .ok (.ireturn, 1) := by decide +kernel
theorem dTS_change_0 : decode prog_1_method_23_code 0 = .ok (.iload_n 1, 1) := by decide +kernel
theorem dTS_change_1 : decode prog_1_method_23_code 1 = .ok (.iconst (-1), 1) := by decide +kernel
theorem dTS_change_2 : decode prog_1_method_23_code 2 = .ok (.if_icmp .eq (50), 3) := by decide +kernel
theorem dTS_change_5 : decode prog_1_method_23_code 5 = .ok (.iload_n 1, 1) := by decide +kernel
theorem dTS_change_6 : decode prog_1_method_23_code 6 = .ok (.aload_n 0, 1) := by decide +kernel
theorem dTS_change_7 : decode prog_1_method_23_code 7 = .ok (.getfield 88, 3) := by decide +kernel
theorem dTS_change_10 : decode prog_1_method_23_code 10 = .ok (.if_icmp .lt (42), 3) := by decide +kernel
theorem dTS_change_13 : decode prog_1_method_23_code 13 = .ok (.aload_n 0, 1) := by decide +kernel
theorem dTS_change_14 : decode prog_1_method_23_code 14 = .ok (.getfield 26, 3) := by decide +kernel
theorem dTS_change_17 : decode prog_1_method_23_code 17 = .ok (.getfield 169, 3) := by decide +kernel
theorem dTS_change_20 : decode prog_1_method_23_code 20 = .ok (.iload_n 1, 1) := by decide +kernel
theorem dTS_change_21 : decode prog_1_method_23_code 21 = .ok (.iaload, 1) := by decide +kernel
theorem dTS_change_22 : decode prog_1_method_23_code 22 = .ok (.aload_n 0, 1) := by decide +kernel
theorem dTS_change_23 : decode prog_1_method_23_code 23 = .ok (.getfield 30, 3) := by decide +kernel
theorem dTS_change_26 : decode prog_1_method_23_code 26 = .ok (.if_icmp .ne (26), 3) := by decide +kernel
theorem dTS_change_29 : decode prog_1_method_23_code 29 = .ok (.aload_n 0, 1) := by decide +kernel
theorem dTS_change_30 : decode prog_1_method_23_code 30 = .ok (.getfield 26, 3) := by decide +kernel
theorem dTS_change_33 : decode prog_1_method_23_code 33 = .ok (.getfield 81, 3) := by decide +kernel
theorem dTS_change_36 : decode prog_1_method_23_code 36 = .ok (.iload_n 1, 1) := by decide +kernel
theorem dTS_change_37 : decode prog_1_method_23_code 37 = .ok (.iload_n 3, 1) := by decide +kernel
theorem dTS_change_38 : decode prog_1_method_23_code 38 = .ok (.iastore, 1) := by decide +kernel
theorem dTS_change_39 : decode prog_1_method_23_code 39 = .ok (.aload_n 0, 1) := by decide +kernel
theorem dTS_change_40 : decode prog_1_method_23_code 40 = .ok (.getfield 26, 3) := by decide +kernel
theorem dTS_change_43 : decode prog_1_method_23_code 43 = .ok (.getfield 172, 3) := by decide +kernel
theorem dTS_change_46 : decode prog_1_method_23_code 46 = .ok (.iload_n 1, 1) := by decide +kernel
theorem dTS_change_47 : decode prog_1_method_23_code 47 = .ok (.iload 4, 2) := by decide +kernel
theorem dTS_change_49 : decode prog_1_method_23_code 49 = .ok (.bastore, 1) := by decide +kernel
theorem dTS_change_50 : decode prog_1_method_23_code 50 = .ok (.iconst 1, 1) := by decide +kernel
theorem dTS_change_51 : decode prog_1_method_23_code 51 = .ok (.ireturn, 1) := by decide +kernel
theorem dTS_change_52 : decode prog_1_method_23_code 52 = .ok (.aload_n 0, 1) := by decide +kernel
theorem dTS_change_53 : decode prog_1_method_23_code 53 = .ok (.getfield 99, 3) := by decide +kernel
theorem dTS_change_56 : decode prog_1_method_23_code 56 = .ok (.sipush 400, 3) := by decide +kernel
theorem dTS_change_59 : decode prog_1_method_23_code 59 = .ok (.if_icmp .lt (6), 3) := by decide +kernel
theorem dTS_change_62 : decode prog_1_method_23_code 62 = .ok (.bipush (-2), 2) := by decide +kernel
theorem dTS_change_64 : decode prog_1_method_23_code 64 = .ok (.ireturn, 1) := by decide +kernel
theorem dTS_change_65 : decode prog_1_method_23_code 65 = .ok (.aload_n 0, 1) := by decide +kernel
theorem dTS_change_66 : decode prog_1_method_23_code 66 = .ok (.iload_n 2, 1) := by decide +kernel
theorem dTS_change_67 : decode prog_1_method_23_code 67 = .ok (.iload_n 3, 1) := by decide +kernel
theorem dTS_change_68 : decode prog_1_method_23_code 68 = .ok (.iload 4, 2) := by decide +kernel
theorem dTS_change_70 : decode prog_1_method_23_code 70 = .ok (.invokevirtual 150, 3) := by decide +kernel
theorem dTS_change_73 : decode prog_1_method_23_code 73 = .ok (.ifCond .eq (7), 3) := by decide +kernel
theorem dTS_change_76 : decode prog_1_method_23_code 76 = .ok (.iconst 2, 1) := by decide +kernel
theorem dTS_change_77 : decode prog_1_method_23_code 77 = .ok (.goto (5), 3) := by decide +kernel
theorem dTS_change_80 : decode prog_1_method_23_code 80 = .ok (.bipush (-9), 2) := by decide +kernel
theorem dTS_change_82 : decode prog_1_method_23_code 82 = .ok (.ireturn, 1) := by decide +kernel
theorem dTS_append_0 : decode prog_1_method_24_code 0 = .ok (.aload_n 0, 1) := by decide +kernel
theorem dTS_append_1 : decode prog_1_method_24_code 1 = .ok (.getfield 99, 3) := by decide +kernel
theorem dTS_append_4 : decode prog_1_method_24_code 4 = .ok (.iconst 4, 1) := by decide +kernel
theorem dTS_append_5 : decode prog_1_method_24_code 5 = .ok (.irem, 1) := by decide +kernel
theorem dTS_append_6 : decode prog_1_method_24_code 6 = .ok (.ifCond .ne (12), 3) := by decide +kernel
theorem dTS_append_9 : decode prog_1_method_24_code 9 = .ok (.aload_n 0, 1) := by decide +kernel
theorem dTS_append_10 : decode prog_1_method_24_code 10 = .ok (.invokevirtual 188, 3) := by decide +kernel
theorem dTS_append_13 : decode prog_1_method_24_code 13 = .ok (.ifCond .ne (5), 3) := by decide +kernel
theorem dTS_append_16 : decode prog_1_method_24_code 16 = .ok (.iconst 0, 1) := by decide +kernel
theorem dTS_append_17 : decode prog_1_method_24_code 17 = .ok (.ireturn, 1) := by decide +kernel
theorem dTS_append_18 : decode prog_1_method_24_code 18 = .ok (.aload_n 0, 1) := by decide +kernel
theorem dTS_append_19 : decode prog_1_method_24_code 19 = .ok (.getfield 19, 3) := by decide +kernel
theorem dTS_append_22 : decode prog_1_method_24_code 22 = .ok (.iload_n 1, 1) := by decide +kernel
theorem dTS_append_23 : decode prog_1_method_24_code 23 = .ok (.invokevirtual 185, 3) := by decide +kernel
theorem dTS_append_26 : decode prog_1_method_24_code 26 = .ok (.istore 4, 2) := by decide +kernel
theorem dTS_append_28 : decode prog_1_method_24_code 28 = .ok (.aload_n 0, 1) := by decide +kernel
theorem dTS_append_29 : decode prog_1_method_24_code 29 = .ok (.getfield 26, 3) := by decide +kernel
theorem dTS_append_32 : decode prog_1_method_24_code 32 = .ok (.getfield 147, 3) := by decide +kernel
theorem dTS_append_35 : decode prog_1_method_24_code 35 = .ok (.aload_n 0, 1) := by decide +kernel
theorem dTS_append_36 : decode prog_1_method_24_code 36 = .ok (.getfield 99, 3) := by decide +kernel
theorem dTS_append_39 : decode prog_1_method_24_code 39 = .ok (.iload_n 1, 1) := by decide +kernel
theorem dTS_append_40 : decode prog_1_method_24_code 40 = .ok (.iastore, 1) := by decide +kernel
theorem dTS_append_41 : decode prog_1_method_24_code 41 = .ok (.aload_n 0, 1) := by decide +kernel
theorem dTS_append_42 : decode prog_1_method_24_code 42 = .ok (.getfield 26, 3) := by decide +kernel
theorem dTS_append_45 : decode prog_1_method_24_code 45 = .ok (.getfield 81, 3) := by decide +kernel
theorem dTS_append_48 : decode prog_1_method_24_code 48 = .ok (.aload_n 0, 1) := by decide +kernel
theorem dTS_append_49 : decode prog_1_method_24_code 49 = .ok (.getfield 99, 3) := by decide +kernel
theorem dTS_append_52 : decode prog_1_method_24_code 52 = .ok (.iload_n 2, 1) := by decide +kernel
theorem dTS_append_53 : decode prog_1_method_24_code 53 = .ok (.iastore, 1) := by decide +kernel
theorem dTS_append_54 : decode prog_1_method_24_code 54 = .ok (.aload_n 0, 1) := by decide +kernel
theorem dTS_append_55 : decode prog_1_method_24_code 55 = .ok (.getfield 26, 3) := by decide +kernel
theorem dTS_append_58 : decode prog_1_method_24_code 58 = .ok (.getfield 166, 3) := by decide +kernel
theorem dTS_append_61 : decode prog_1_method_24_code 61 = .ok (.aload_n 0, 1) := by decide +kernel
theorem dTS_append_62 : decode prog_1_method_24_code 62 = .ok (.getfield 99, 3) := by decide +kernel
theorem dTS_append_65 : decode prog_1_method_24_code 65 = .ok (.aload_n 0, 1) := by decide +kernel
theorem dTS_append_66 : decode prog_1_method_24_code 66 = .ok (.getfield 19, 3) := by decide +kernel
theorem dTS_append_69 : decode prog_1_method_24_code 69 = .ok (.getfield 176, 3) := by decide +kernel
theorem dTS_append_72 : decode prog_1_method_24_code 72 = .ok (.iload 4, 2) := by decide +kernel
theorem dTS_append_74 : decode prog_1_method_24_code 74 = .ok (.iaload, 1) := by decide +kernel
theorem dTS_append_75 : decode prog_1_method_24_code 75 = .ok (.iastore, 1) := by decide +kernel
theorem dTS_append_76 : decode prog_1_method_24_code 76 = .ok (.aload_n 0, 1) := by decide +kernel
theorem dTS_append_77 : decode prog_1_method_24_code 77 = .ok (.getfield 26, 3) := by decide +kernel
theorem dTS_append_80 : decode prog_1_method_24_code 80 = .ok (.getfield 169, 3) := by decide +kernel
theorem dTS_append_83 : decode prog_1_method_24_code 83 = .ok (.aload_n 0, 1) := by decide +kernel
theorem dTS_append_84 : decode prog_1_method_24_code 84 = .ok (.getfield 99, 3) := by decide +kernel
theorem dTS_append_87 : decode prog_1_method_24_code 87 = .ok (.aload_n 0, 1) := by decide +kernel
theorem dTS_append_88 : decode prog_1_method_24_code 88 = .ok (.getfield 30, 3) := by decide +kernel
theorem dTS_append_91 : decode prog_1_method_24_code 91 = .ok (.iastore, 1) := by decide +kernel
theorem dTS_append_92 : decode prog_1_method_24_code 92 = .ok (.aload_n 0, 1) := by decide +kernel
theorem dTS_append_93 : decode prog_1_method_24_code 93 = .ok (.getfield 26, 3) := by decide +kernel
theorem dTS_append_96 : decode prog_1_method_24_code 96 = .ok (.getfield 172, 3) := by decide +kernel
theorem dTS_append_99 : decode prog_1_method_24_code 99 = .ok (.aload_n 0, 1) := by decide +kernel
theorem dTS_append_100 : decode prog_1_method_24_code 100 = .ok (.getfield 99, 3) := by decide +kernel
theorem dTS_append_103 : decode prog_1_method_24_code 103 = .ok (.iload_n 3, 1) := by decide +kernel
theorem dTS_append_104 : decode prog_1_method_24_code 104 = .ok (.bastore, 1) := by decide +kernel
theorem dTS_append_105 : decode prog_1_method_24_code 105 = .ok (.aload_n 0, 1) := by decide +kernel
theorem dTS_append_106 : decode prog_1_method_24_code 106 = .ok (.getfield 19, 3) := by decide +kernel
theorem dTS_append_109 : decode prog_1_method_24_code 109 = .ok (.getfield 176, 3) := by decide +kernel
theorem dTS_append_112 : decode prog_1_method_24_code 112 = .ok (.iload 4, 2) := by decide +kernel
theorem dTS_append_114 : decode prog_1_method_24_code 114 = .ok (.aload_n 0, 1) := by decide +kernel
theorem dTS_append_115 : decode prog_1_method_24_code 115 = .ok (.getfield 99, 3) := by decide +kernel
theorem dTS_append_118 : decode prog_1_method_24_code 118 = .ok (.iastore, 1) := by decide +kernel
theorem dTS_append_119 : decode prog_1_method_24_code 119 = .ok (.aload_n 0, 1) := by decide +kernel
theorem dTS_append_120 : decode prog_1_method_24_code 120 = .ok (.dup, 1) := by decide +kernel
theorem dTS_append_121 : decode prog_1_method_24_code 121 = .ok (.getfield 99, 3) := by decide +kernel
theorem dTS_append_124 : decode prog_1_method_24_code 124 = .ok (.iconst 1, 1) := by decide +kernel
theorem dTS_append_125 : decode prog_1_method_24_code 125 = .ok (.iadd, 1) := by decide +kernel
theorem dTS_append_126 : decode prog_1_method_24_code 126 = .ok (.putfield 99, 3) := by decide +kernel
theorem dTS_append_129 : decode prog_1_method_24_code 129 = .ok (.iconst 1, 1) := by decide +kernel
theorem dTS_append_130 : decode prog_1_method_24_code 130 = .ok (.ireturn, 1) := by decide +kernel
theorem dTS_openPage_0 : decode prog_1_method_25_code 0 = .ok (.aload_n 0, 1) := by decide +kernel
theorem dTS_openPage_1 : decode prog_1_method_25_code 1 = .ok (.aload_n 0, 1) := by decide +kernel
theorem dTS_openPage_2 : decode prog_1_method_25_code 2 = .ok (.getfield 88, 3) := by decide +kernel
theorem dTS_openPage_5 : decode prog_1_method_25_code 5 = .ok (.aload_n 0, 1) := by decide +kernel
theorem dTS_openPage_6 : decode prog_1_method_25_code 6 = .ok (.getfield 99, 3) := by decide +kernel
theorem dTS_openPage_9 : decode prog_1_method_25_code 9 = .ok (.aload_n 0, 1) := by decide +kernel
theorem dTS_openPage_10 : decode prog_1_method_25_code 10 = .ok (.getfield 59, 3) := by decide +kernel
theorem dTS_openPage_13 : decode prog_1_method_25_code 13 = .ok (.iconst 1, 1) := by decide +kernel
theorem dTS_openPage_14 : decode prog_1_method_25_code 14 = .ok (.isub, 1) := by decide +kernel
theorem dTS_openPage_15 : decode prog_1_method_25_code 15 = .ok (.iconst 4, 1) := by decide +kernel
theorem dTS_openPage_16 : decode prog_1_method_25_code 16 = .ok (.imul, 1) := by decide +kernel
theorem dTS_openPage_17 : decode prog_1_method_25_code 17 = .ok (.isub, 1) := by decide +kernel
theorem dTS_openPage_18 : decode prog_1_method_25_code 18 = .ok (.invokestatic 53, 3) := by decide +kernel
theorem dTS_openPage_21 : decode prog_1_method_25_code 21 = .ok (.putfield 88, 3) := by decide +kernel
theorem dTS_openPage_24 : decode prog_1_method_25_code 24 = .ok (.aload_n 0, 1) := by decide +kernel
theorem dTS_openPage_25 : decode prog_1_method_25_code 25 = .ok (.getfield 99, 3) := by decide +kernel
theorem dTS_openPage_28 : decode prog_1_method_25_code 28 = .ok (.aload_n 0, 1) := by decide +kernel
theorem dTS_openPage_29 : decode prog_1_method_25_code 29 = .ok (.getfield 56, 3) := by decide +kernel
theorem dTS_openPage_32 : decode prog_1_method_25_code 32 = .ok (.iconst 1, 1) := by decide +kernel
theorem dTS_openPage_33 : decode prog_1_method_25_code 33 = .ok (.isub, 1) := by decide +kernel
theorem dTS_openPage_34 : decode prog_1_method_25_code 34 = .ok (.iconst 4, 1) := by decide +kernel
theorem dTS_openPage_35 : decode prog_1_method_25_code 35 = .ok (.imul, 1) := by decide +kernel
theorem dTS_openPage_36 : decode prog_1_method_25_code 36 = .ok (.isub, 1) := by decide +kernel
theorem dTS_openPage_37 : decode prog_1_method_25_code 37 = .ok (.istore_n 1, 1) := by decide +kernel
theorem dTS_openPage_38 : decode prog_1_method_25_code 38 = .ok (.aload_n 0, 1) := by decide +kernel
theorem dTS_openPage_39 : decode prog_1_method_25_code 39 = .ok (.getfield 91, 3) := by decide +kernel
theorem dTS_openPage_42 : decode prog_1_method_25_code 42 = .ok (.iload_n 1, 1) := by decide +kernel
theorem dTS_openPage_43 : decode prog_1_method_25_code 43 = .ok (.if_icmp .ge (30), 3) := by decide +kernel
theorem dTS_openPage_46 : decode prog_1_method_25_code 46 = .ok (.aload_n 0, 1) := by decide +kernel
theorem dTS_openPage_47 : decode prog_1_method_25_code 47 = .ok (.getfield 160, 3) := by decide +kernel
theorem dTS_openPage_50 : decode prog_1_method_25_code 50 = .ok (.aload_n 0, 1) := by decide +kernel
theorem dTS_openPage_51 : decode prog_1_method_25_code 51 = .ok (.getfield 91, 3) := by decide +kernel
theorem dTS_openPage_54 : decode prog_1_method_25_code 54 = .ok (.invokestatic 137, 3) := by decide +kernel
theorem dTS_openPage_57 : decode prog_1_method_25_code 57 = .ok (.if_icmp .ge (16), 3) := by decide +kernel
theorem dTS_openPage_60 : decode prog_1_method_25_code 60 = .ok (.aload_n 0, 1) := by decide +kernel
theorem dTS_openPage_61 : decode prog_1_method_25_code 61 = .ok (.aload_n 0, 1) := by decide +kernel
theorem dTS_openPage_62 : decode prog_1_method_25_code 62 = .ok (.getfield 88, 3) := by decide +kernel
theorem dTS_openPage_65 : decode prog_1_method_25_code 65 = .ok (.invokevirtual 191, 3) := by decide +kernel
theorem dTS_openPage_68 : decode prog_1_method_25_code 68 = .ok (.ifCond .ne (5), 3) := by decide +kernel
theorem dTS_openPage_71 : decode prog_1_method_25_code 71 = .ok (.iconst 0, 1) := by decide +kernel
theorem dTS_openPage_72 : decode prog_1_method_25_code 72 = .ok (.ireturn, 1) := by decide +kernel
theorem dTS_openPage_73 : decode prog_1_method_25_code 73 = .ok (.aload_n 0, 1) := by decide +kernel
theorem dTS_openPage_74 : decode prog_1_method_25_code 74 = .ok (.aload_n 0, 1) := by decide +kernel
theorem dTS_openPage_75 : decode prog_1_method_25_code 75 = .ok (.getfield 91, 3) := by decide +kernel
theorem dTS_openPage_78 : decode prog_1_method_25_code 78 = .ok (.iload_n 1, 1) := by decide +kernel
theorem dTS_openPage_79 : decode prog_1_method_25_code 79 = .ok (.invokestatic 53, 3) := by decide +kernel
theorem dTS_openPage_82 : decode prog_1_method_25_code 82 = .ok (.putfield 91, 3) := by decide +kernel
theorem dTS_openPage_85 : decode prog_1_method_25_code 85 = .ok (.iconst 1, 1) := by decide +kernel
theorem dTS_openPage_86 : decode prog_1_method_25_code 86 = .ok (.ireturn, 1) := by decide +kernel
theorem dTS_flush_0 : decode prog_1_method_26_code 0 = .ok (.iconst 0, 1) := by decide +kernel
theorem dTS_flush_1 : decode prog_1_method_26_code 1 = .ok (.istore_n 2, 1) := by decide +kernel
theorem dTS_flush_2 : decode prog_1_method_26_code 2 = .ok (.iload_n 2, 1) := by decide +kernel
theorem dTS_flush_3 : decode prog_1_method_26_code 3 = .ok (.bipush 100, 2) := by decide +kernel
theorem dTS_flush_5 : decode prog_1_method_26_code 5 = .ok (.if_icmp .ge (27), 3) := by decide +kernel
theorem dTS_flush_8 : decode prog_1_method_26_code 8 = .ok (.aload_n 0, 1) := by decide +kernel
theorem dTS_flush_9 : decode prog_1_method_26_code 9 = .ok (.getfield 160, 3) := by decide +kernel
theorem dTS_flush_12 : decode prog_1_method_26_code 12 = .ok (.iload_n 1, 1) := by decide +kernel
theorem dTS_flush_13 : decode prog_1_method_26_code 13 = .ok (.if_icmp .ge (19), 3) := by decide +kernel
theorem dTS_flush_16 : decode prog_1_method_26_code 16 = .ok (.aload_n 0, 1) := by decide +kernel
theorem dTS_flush_17 : decode prog_1_method_26_code 17 = .ok (.iload_n 1, 1) := by decide +kernel
theorem dTS_flush_18 : decode prog_1_method_26_code 18 = .ok (.invokevirtual 194, 3) := by decide +kernel
theorem dTS_flush_21 : decode prog_1_method_26_code 21 = .ok (.ifCond .ne (5), 3) := by decide +kernel
theorem dTS_flush_24 : decode prog_1_method_26_code 24 = .ok (.iconst 0, 1) := by decide +kernel
theorem dTS_flush_25 : decode prog_1_method_26_code 25 = .ok (.ireturn, 1) := by decide +kernel
theorem dTS_flush_26 : decode prog_1_method_26_code 26 = .ok (.iinc 2 1, 3) := by decide +kernel
theorem dTS_flush_29 : decode prog_1_method_26_code 29 = .ok (.goto (-27), 3) := by decide +kernel
theorem dTS_flush_32 : decode prog_1_method_26_code 32 = .ok (.iconst 1, 1) := by decide +kernel
theorem dTS_flush_33 : decode prog_1_method_26_code 33 = .ok (.ireturn, 1) := by decide +kernel
theorem dTS_flushPage_0 : decode prog_1_method_27_code 0 = .ok (.aload_n 0, 1) := by decide +kernel
theorem dTS_flushPage_1 : decode prog_1_method_27_code 1 = .ok (.iload_n 1, 1) := by decide +kernel
theorem dTS_flushPage_2 : decode prog_1_method_27_code 2 = .ok (.aload_n 0, 1) := by decide +kernel
theorem dTS_flushPage_3 : decode prog_1_method_27_code 3 = .ok (.getfield 160, 3) := by decide +kernel
theorem dTS_flushPage_6 : decode prog_1_method_27_code 6 = .ok (.invokestatic 137, 3) := by decide +kernel
theorem dTS_flushPage_9 : decode prog_1_method_27_code 9 = .ok (.invokestatic 47, 3) := by decide +kernel
theorem dTS_flushPage_12 : decode prog_1_method_27_code 12 = .ok (.putfield 160, 3) := by decide +kernel
