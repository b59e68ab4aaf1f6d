theorem dMO_init_0 : decode prog_7_method_1_code 0 = .ok (.aload_n 0, 1) := by decide +kernel
theorem dMO_init_1 : decode prog_7_method_1_code 1 = .ok (.invokespecial 1, 3) := by decide +kernel
theorem dMO_init_4 : decode prog_7_method_1_code 4 = .ok (.aload_n 0, 1) := by decide +kernel
theorem dMO_init_5 : decode prog_7_method_1_code 5 = .ok (.sipush 400, 3) := by decide +kernel
theorem dMO_init_8 : decode prog_7_method_1_code 8 = .ok (.newarray .int, 2) := by decide +kernel
theorem dMO_init_10 : decode prog_7_method_1_code 10 = .ok (.putfield 7, 3) := by decide +kernel
theorem dMO_init_13 : decode prog_7_method_1_code 13 = .ok (.aload_n 0, 1) := by decide +kernel
theorem dMO_init_14 : decode prog_7_method_1_code 14 = .ok (.sipush 400, 3) := by decide +kernel
theorem dMO_init_17 : decode prog_7_method_1_code 17 = .ok (.newarray .int, 2) := by decide +kernel
theorem dMO_init_19 : decode prog_7_method_1_code 19 = .ok (.putfield 13, 3) := by decide +kernel
theorem dMO_init_22 : decode prog_7_method_1_code 22 = .ok (.aload_n 0, 1) := by decide +kernel
theorem dMO_init_23 : decode prog_7_method_1_code 23 = .ok (.sipush 400, 3) := by decide +kernel
theorem dMO_init_26 : decode prog_7_method_1_code 26 = .ok (.newarray .int, 2) := by decide +kernel
theorem dMO_init_28 : decode prog_7_method_1_code 28 = .ok (.putfield 16, 3) := by decide +kernel
theorem dMO_init_31 : decode prog_7_method_1_code 31 = .ok (.aload_n 0, 1) := by decide +kernel
theorem dMO_init_32 : decode prog_7_method_1_code 32 = .ok (.sipush 400, 3) := by decide +kernel
theorem dMO_init_35 : decode prog_7_method_1_code 35 = .ok (.newarray .int, 2) := by decide +kernel
theorem dMO_init_37 : decode prog_7_method_1_code 37 = .ok (.putfield 19, 3) := by decide +kernel
theorem dMO_init_40 : decode prog_7_method_1_code 40 = .ok (.aload_n 0, 1) := by decide +kernel
theorem dMO_init_41 : decode prog_7_method_1_code 41 = .ok (.sipush 400, 3) := by decide +kernel
theorem dMO_init_44 : decode prog_7_method_1_code 44 = .ok (.newarray .boolean, 2) := by decide +kernel
theorem dMO_init_46 : decode prog_7_method_1_code 46 = .ok (.putfield 22, 3) := by decide +kernel
theorem dMO_init_49 : decode prog_7_method_1_code 49 = .ok (.aload_n 0, 1) := by decide +kernel
theorem dMO_init_50 : decode prog_7_method_1_code 50 = .ok (.bipush 16, 2) := by decide +kernel
theorem dMO_init_52 : decode prog_7_method_1_code 52 = .ok (.newarray .int, 2) := by decide +kernel
theorem dMO_init_54 : decode prog_7_method_1_code 54 = .ok (.putfield 26, 3) := by decide +kernel
theorem dMO_init_57 : decode prog_7_method_1_code 57 = .ok (.aload_n 0, 1) := by decide +kernel
theorem dMO_init_58 : decode prog_7_method_1_code 58 = .ok (.iconst 2, 1) := by decide +kernel
theorem dMO_init_59 : decode prog_7_method_1_code 59 = .ok (.newarray .int, 2) := by decide +kernel
theorem dMO_init_61 : decode prog_7_method_1_code 61 = .ok (.putfield 29, 3) := by decide +kernel
theorem dMO_init_64 : decode prog_7_method_1_code 64 = .ok (.aload_n 0, 1) := by decide +kernel
theorem dMO_init_65 : decode prog_7_method_1_code 65 = .ok (.iconst 2, 1) := by decide +kernel
theorem dMO_init_66 : decode prog_7_method_1_code 66 = .ok (.newarray .int, 2) := by decide +kernel
theorem dMO_init_68 : decode prog_7_method_1_code 68 = .ok (.putfield 32, 3) := by decide +kernel
theorem dMO_init_71 : decode prog_7_method_1_code 71 = .ok (.aload_n 0, 1) := by decide +kernel
theorem dMO_init_72 : decode prog_7_method_1_code 72 = .ok (.iconst 2, 1) := by decide +kernel
theorem dMO_init_73 : decode prog_7_method_1_code 73 = .ok (.newarray .int, 2) := by decide +kernel
theorem dMO_init_75 : decode prog_7_method_1_code 75 = .ok (.putfield 35, 3) := by decide +kernel
theorem dMO_init_78 : decode prog_7_method_1_code 78 = .ok (.aload_n 0, 1) := by decide +kernel
theorem dMO_init_79 : decode prog_7_method_1_code 79 = .ok (.iconst 2, 1) := by decide +kernel
theorem dMO_init_80 : decode prog_7_method_1_code 80 = .ok (.newarray .int, 2) := by decide +kernel
theorem dMO_init_82 : decode prog_7_method_1_code 82 = .ok (.putfield 38, 3) := by decide +kernel
theorem dMO_init_85 : decode prog_7_method_1_code 85 = .ok (.aload_n 0, 1) := by decide +kernel
theorem dMO_init_86 : decode prog_7_method_1_code 86 = .ok (.iconst 2, 1) := by decide +kernel
theorem dMO_init_87 : decode prog_7_method_1_code 87 = .ok (.newarray .int, 2) := by decide +kernel
theorem dMO_init_89 : decode prog_7_method_1_code 89 = .ok (.putfield 41, 3) := by decide +kernel
theorem dMO_init_92 : decode prog_7_method_1_code 92 = .ok (.aload_n 0, 1) := by decide +kernel
theorem dMO_init_93 : decode prog_7_method_1_code 93 = .ok (.iconst 2, 1) := by decide +kernel
theorem dMO_init_94 : decode prog_7_method_1_code 94 = .ok (.newarray .int, 2) := by decide +kernel
theorem dMO_init_96 : decode prog_7_method_1_code 96 = .ok (.putfield 44, 3) := by decide +kernel
theorem dMO_init_99 : decode prog_7_method_1_code 99 = .ok (.aload_n 0, 1) := by decide +kernel
theorem dMO_init_100 : decode prog_7_method_1_code 100 = .ok (.bipush 32, 2) := by decide +kernel
theorem dMO_init_102 : decode prog_7_method_1_code 102 = .ok (.newarray .int, 2) := by decide +kernel
theorem dMO_init_104 : decode prog_7_method_1_code 104 = .ok (.putfield 47, 3) := by decide +kernel
theorem dMO_init_107 : decode prog_7_method_1_code 107 = .ok (.aload_n 0, 1) := by decide +kernel
theorem dMO_init_108 : decode prog_7_method_1_code 108 = .ok (.iload_n 1, 1) := by decide +kernel
theorem dMO_init_109 : decode prog_7_method_1_code 109 = .ok (.iconst 3, 1) := by decide +kernel
theorem dMO_init_110 : decode prog_7_method_1_code 110 = .ok (.if_icmp .ge (7), 3) := by decide +kernel
theorem dMO_init_113 : decode prog_7_method_1_code 113 = .ok (.iconst 3, 1) := by decide +kernel
theorem dMO_init_114 : decode prog_7_method_1_code 114 = .ok (.goto (15), 3) := by decide +kernel
theorem dMO_init_117 : decode prog_7_method_1_code 117 = .ok (.iload_n 1, 1) := by decide +kernel
theorem dMO_init_118 : decode prog_7_method_1_code 118 = .ok (.bipush 8, 2) := by decide +kernel
theorem dMO_init_120 : decode prog_7_method_1_code 120 = .ok (.if_icmp .le (8), 3) := by decide +kernel
theorem dMO_init_123 : decode prog_7_method_1_code 123 = .ok (.bipush 8, 2) := by decide +kernel
theorem dMO_init_125 : decode prog_7_method_1_code 125 = .ok (.goto (4), 3) := by decide +kernel
theorem dMO_init_128 : decode prog_7_method_1_code 128 = .ok (.iload_n 1, 1) := by decide +kernel
theorem dMO_init_129 : decode prog_7_method_1_code 129 = .ok (.putfield 50, 3) := by decide +kernel
theorem dMO_init_132 : decode prog_7_method_1_code 132 = .ok (.aload_n 0, 1) := by decide +kernel
theorem dMO_init_133 : decode prog_7_method_1_code 133 = .ok (.iload_n 2, 1) := by decide +kernel
theorem dMO_init_134 : decode prog_7_method_1_code 134 = .ok (.iconst 1, 1) := by decide +kernel
theorem dMO_init_135 : decode prog_7_method_1_code 135 = .ok (.if_icmp .ge (7), 3) := by decide +kernel
theorem dMO_init_138 : decode prog_7_method_1_code 138 = .ok (.iconst 1, 1) := by decide +kernel
theorem dMO_init_139 : decode prog_7_method_1_code 139 = .ok (.goto (23), 3) := by decide +kernel
theorem dMO_init_142 : decode prog_7_method_1_code 142 = .ok (.iload_n 2, 1) := by decide +kernel
theorem dMO_init_143 : decode prog_7_method_1_code 143 = .ok (.aload_n 0, 1) := by decide +kernel
theorem dMO_init_144 : decode prog_7_method_1_code 144 = .ok (.getfield 50, 3) := by decide +kernel
theorem dMO_init_147 : decode prog_7_method_1_code 147 = .ok (.iconst 2, 1) := by decide +kernel
theorem dMO_init_148 : decode prog_7_method_1_code 148 = .ok (.isub, 1) := by decide +kernel
theorem dMO_init_149 : decode prog_7_method_1_code 149 = .ok (.if_icmp .le (12), 3) := by decide +kernel
theorem dMO_init_152 : decode prog_7_method_1_code 152 = .ok (.aload_n 0, 1) := by decide +kernel
theorem dMO_init_153 : decode prog_7_method_1_code 153 = .ok (.getfield 50, 3) := by decide +kernel
theorem dMO_init_156 : decode prog_7_method_1_code 156 = .ok (.iconst 2, 1) := by decide +kernel
theorem dMO_init_157 : decode prog_7_method_1_code 157 = .ok (.isub, 1) := by decide +kernel
theorem dMO_init_158 : decode prog_7_method_1_code 158 = .ok (.goto (4), 3) := by decide +kernel
theorem dMO_init_161 : decode prog_7_method_1_code 161 = .ok (.iload_n 2, 1) := by decide +kernel
theorem dMO_init_162 : decode prog_7_method_1_code 162 = .ok (.putfield 54, 3) := by decide +kernel
theorem dMO_init_165 : decode prog_7_method_1_code 165 = .ok (.aload_n 0, 1) := by decide +kernel
theorem dMO_init_166 : decode prog_7_method_1_code 166 = .ok (.iconst (-1), 1) := by decide +kernel
theorem dMO_init_167 : decode prog_7_method_1_code 167 = .ok (.putfield 57, 3) := by decide +kernel
theorem dMO_init_170 : decode prog_7_method_1_code 170 = .ok (.aload_n 0, 1) := by decide +kernel
theorem dMO_init_171 : decode prog_7_method_1_code 171 = .ok (.invokevirtual 60, 3) := by decide +kernel
theorem dMO_init_174 : decode prog_7_method_1_code 174 = .ok (.return_, 1) := by decide +kernel
theorem dMO_empty_0 : decode prog_7_method_2_code 0 = .ok (.aload_n 0, 1) := by decide +kernel
theorem dMO_empty_1 : decode prog_7_method_2_code 1 = .ok (.iconst 0, 1) := by decide +kernel
theorem dMO_empty_2 : decode prog_7_method_2_code 2 = .ok (.putfield 63, 3) := by decide +kernel
theorem dMO_empty_5 : decode prog_7_method_2_code 5 = .ok (.aload_n 0, 1) := by decide +kernel
theorem dMO_empty_6 : decode prog_7_method_2_code 6 = .ok (.iconst 0, 1) := by decide +kernel
theorem dMO_empty_7 : decode prog_7_method_2_code 7 = .ok (.putfield 66, 3) := by decide +kernel
theorem dMO_empty_10 : decode prog_7_method_2_code 10 = .ok (.aload_n 0, 1) := by decide +kernel
theorem dMO_empty_11 : decode prog_7_method_2_code 11 = .ok (.iconst 0, 1) := by decide +kernel
theorem dMO_empty_12 : decode prog_7_method_2_code 12 = .ok (.putfield 69, 3) := by decide +kernel
theorem dMO_empty_15 : decode prog_7_method_2_code 15 = .ok (.aload_n 0, 1) := by decide +kernel
theorem dMO_empty_16 : decode prog_7_method_2_code 16 = .ok (.iconst 0, 1) := by decide +kernel
theorem dMO_empty_17 : decode prog_7_method_2_code 17 = .ok (.putfield 72, 3) := by decide +kernel
theorem dMO_empty_20 : decode prog_7_method_2_code 20 = .ok (.aload_n 0, 1) := by decide +kernel
theorem dMO_empty_21 : decode prog_7_method_2_code 21 = .ok (.iconst 0, 1) := by decide +kernel
theorem dMO_empty_22 : decode prog_7_method_2_code 22 = .ok (.putfield 75, 3) := by decide +kernel
theorem dMO_empty_25 : decode prog_7_method_2_code 25 = .ok (.aload_n 0, 1) := by decide +kernel
theorem dMO_empty_26 : decode prog_7_method_2_code 26 = .ok (.iconst 1, 1) := by decide +kernel
theorem dMO_empty_27 : decode prog_7_method_2_code 27 = .ok (.putfield 78, 3) := by decide +kernel
theorem dMO_empty_30 : decode prog_7_method_2_code 30 = .ok (.aload_n 0, 1) := by decide +kernel
theorem dMO_empty_31 : decode prog_7_method_2_code 31 = .ok (.iconst 0, 1) := by decide +kernel
theorem dMO_empty_32 : decode prog_7_method_2_code 32 = .ok (.putfield 81, 3) := by decide +kernel
theorem dMO_empty_35 : decode prog_7_method_2_code 35 = .ok (.aload_n 0, 1) := by decide +kernel
theorem dMO_empty_36 : decode prog_7_method_2_code 36 = .ok (.iconst 1, 1) := by decide +kernel
theorem dMO_empty_37 : decode prog_7_method_2_code 37 = .ok (.putfield 84, 3) := by decide +kernel
theorem dMO_empty_40 : decode prog_7_method_2_code 40 = .ok (.iconst 0, 1) := by decide +kernel
theorem dMO_empty_41 : decode prog_7_method_2_code 41 = .ok (.istore_n 1, 1) := by decide +kernel
theorem dMO_empty_42 : decode prog_7_method_2_code 42 = .ok (.iload_n 1, 1) := by decide +kernel
theorem dMO_empty_43 : decode prog_7_method_2_code 43 = .ok (.bipush 16, 2) := by decide +kernel
theorem dMO_empty_45 : decode prog_7_method_2_code 45 = .ok (.if_icmp .ge (16), 3) := by decide +kernel
theorem dMO_empty_48 : decode prog_7_method_2_code 48 = .ok (.aload_n 0, 1) := by decide +kernel
theorem dMO_empty_49 : decode prog_7_method_2_code 49 = .ok (.getfield 26, 3) := by decide +kernel
theorem dMO_empty_52 : decode prog_7_method_2_code 52 = .ok (.iload_n 1, 1) := by decide +kernel
theorem dMO_empty_53 : decode prog_7_method_2_code 53 = .ok (.iconst (-1), 1) := by decide +kernel
theorem dMO_empty_54 : decode prog_7_method_2_code 54 = .ok (.iastore, 1) := by decide +kernel
theorem dMO_empty_55 : decode prog_7_method_2_code 55 = .ok (.iinc 1 1, 3) := by decide +kernel
theorem dMO_empty_58 : decode prog_7_method_2_code 58 = .ok (.goto (-16), 3) := by decide +kernel
theorem dMO_empty_61 : decode prog_7_method_2_code 61 = .ok (.return_, 1) := by decide +kernel
theorem dMO_isKey_0 : decode prog_7_method_3_code 0 = .ok (.iload_n 0, 1) := by decide +kernel
theorem dMO_isKey_1 : decode prog_7_method_3_code 1 = .ok (.ifCond .lt (13), 3) := by decide +kernel
theorem dMO_isKey_4 : decode prog_7_method_3_code 4 = .ok (.iload_n 0, 1) := by decide +kernel
theorem dMO_isKey_5 : decode prog_7_method_3_code 5 = .ok (.bipush 32, 2) := by decide +kernel
theorem dMO_isKey_7 : decode prog_7_method_3_code 7 = .ok (.if_icmp .ge (7), 3) := by decide +kernel
theorem dMO_isKey_10 : decode prog_7_method_3_code 10 = .ok (.iconst 1, 1) := by decide +kernel
theorem dMO_isKey_11 : decode prog_7_method_3_code 11 = .ok (.goto (4), 3) := by decide +kernel
theorem dMO_isKey_14 : decode prog_7_method_3_code 14 = .ok (.iconst 0, 1) := by decide +kernel
theorem dMO_isKey_15 : decode prog_7_method_3_code 15 = .ok (.ireturn, 1) := by decide +kernel
theorem dMO_bucketOf_0 : decode prog_7_method_4_code 0 = .ok (.bipush 13, 2) := by decide +kernel
theorem dMO_bucketOf_2 : decode prog_7_method_4_code 2 = .ok (.iload_n 1, 1) := by decide +kernel
theorem dMO_bucketOf_3 : decode prog_7_method_4_code 3 = .ok (.imul, 1) := by decide +kernel
theorem dMO_bucketOf_4 : decode prog_7_method_4_code 4 = .ok (.iconst 5, 1) := by decide +kernel
theorem dMO_bucketOf_5 : decode prog_7_method_4_code 5 = .ok (.iadd, 1) := by decide +kernel
theorem dMO_bucketOf_6 : decode prog_7_method_4_code 6 = .ok (.bipush 32, 2) := by decide +kernel
theorem dMO_bucketOf_8 : decode prog_7_method_4_code 8 = .ok (.irem, 1) := by decide +kernel
theorem dMO_bucketOf_9 : decode prog_7_method_4_code 9 = .ok (.istore_n 2, 1) := by decide +kernel
theorem dMO_bucketOf_10 : decode prog_7_method_4_code 10 = .ok (.iload_n 2, 1) := by decide +kernel
theorem dMO_bucketOf_11 : decode prog_7_method_4_code 11 = .ok (.iconst 1, 1) := by decide +kernel
theorem dMO_bucketOf_12 : decode prog_7_method_4_code 12 = .ok (.aload_n 0, 1) := by decide +kernel
theorem dMO_bucketOf_13 : decode prog_7_method_4_code 13 = .ok (.getfield 78, 3) := by decide +kernel
theorem dMO_bucketOf_16 : decode prog_7_method_4_code 16 = .ok (.ishl, 1) := by decide +kernel
theorem dMO_bucketOf_17 : decode prog_7_method_4_code 17 = .ok (.irem, 1) := by decide +kernel
theorem dMO_bucketOf_18 : decode prog_7_method_4_code 18 = .ok (.istore_n 3, 1) := by decide +kernel
theorem dMO_bucketOf_19 : decode prog_7_method_4_code 19 = .ok (.iload_n 3, 1) := by decide +kernel
theorem dMO_bucketOf_20 : decode prog_7_method_4_code 20 = .ok (.aload_n 0, 1) := by decide +kernel
theorem dMO_bucketOf_21 : decode prog_7_method_4_code 21 = .ok (.getfield 81, 3) := by decide +kernel
theorem dMO_bucketOf_24 : decode prog_7_method_4_code 24 = .ok (.if_icmp .ge (14), 3) := by decide +kernel
theorem dMO_bucketOf_27 : decode prog_7_method_4_code 27 = .ok (.iload_n 2, 1) := by decide +kernel
theorem dMO_bucketOf_28 : decode prog_7_method_4_code 28 = .ok (.iconst 2, 1) := by decide +kernel
theorem dMO_bucketOf_29 : decode prog_7_method_4_code 29 = .ok (.aload_n 0, 1) := by decide +kernel
theorem dMO_bucketOf_30 : decode prog_7_method_4_code 30 = .ok (.getfield 78, 3) := by decide +kernel
theorem dMO_bucketOf_33 : decode prog_7_method_4_code 33 = .ok (.ishl, 1) := by decide +kernel
theorem dMO_bucketOf_34 : decode prog_7_method_4_code 34 = .ok (.irem, 1) := by decide +kernel
theorem dMO_bucketOf_35 : decode prog_7_method_4_code 35 = .ok (.goto (4), 3) := by decide +kernel
theorem dMO_bucketOf_38 : decode prog_7_method_4_code 38 = .ok (.iload_n 3, 1) := by decide +kernel
theorem dMO_bucketOf_39 : decode prog_7_method_4_code 39 = .ok (.ireturn, 1) := by decide +kernel
theorem dMO_bucketCount_0 : decode prog_7_method_5_code 0 = .ok (.iconst 1, 1) := by decide +kernel
theorem dMO_bucketCount_1 : decode prog_7_method_5_code 1 = .ok (.aload_n 0, 1) := by decide +kernel
theorem dMO_bucketCount_2 : decode prog_7_method_5_code 2 = .ok (.getfield 78, 3) := by decide +kernel
theorem dMO_bucketCount_5 : decode prog_7_method_5_code 5 = .ok (.ishl, 1) := by decide +kernel
theorem dMO_bucketCount_6 : decode prog_7_method_5_code 6 = .ok (.aload_n 0, 1) := by decide +kernel
theorem dMO_bucketCount_7 : decode prog_7_method_5_code 7 = .ok (.getfield 81, 3) := by decide +kernel
theorem dMO_bucketCount_10 : decode prog_7_method_5_code 10 = .ok (.iadd, 1) := by decide +kernel
theorem dMO_bucketCount_11 : decode prog_7_method_5_code 11 = .ok (.ireturn, 1) := by decide +kernel
theorem dMO_find_0 : decode prog_7_method_6_code 0 = .ok (.aload_n 0, 1) := by decide +kernel
theorem dMO_find_1 : decode prog_7_method_6_code 1 = .ok (.getfield 26, 3) := by decide +kernel
theorem dMO_find_4 : decode prog_7_method_6_code 4 = .ok (.aload_n 0, 1) := by decide +kernel
theorem dMO_find_5 : decode prog_7_method_6_code 5 = .ok (.iload_n 1, 1) := by decide +kernel
theorem dMO_find_6 : decode prog_7_method_6_code 6 = .ok (.invokevirtual 87, 3) := by decide +kernel
theorem dMO_find_9 : decode prog_7_method_6_code 9 = .ok (.iaload, 1) := by decide +kernel
theorem dMO_find_10 : decode prog_7_method_6_code 10 = .ok (.istore_n 3, 1) := by decide +kernel
theorem dMO_find_11 : decode prog_7_method_6_code 11 = .ok (.iload_n 3, 1) := by decide +kernel
theorem dMO_find_12 : decode prog_7_method_6_code 12 = .ok (.aload_n 0, 1) := by decide +kernel
theorem dMO_find_13 : decode prog_7_method_6_code 13 = .ok (.getfield 63, 3) := by decide +kernel
theorem dMO_find_16 : decode prog_7_method_6_code 16 = .ok (.if_icmp .lt (58), 3) := by decide +kernel
theorem dMO_find_19 : decode prog_7_method_6_code 19 = .ok (.iload_n 3, 1) := by decide +kernel
theorem dMO_find_20 : decode prog_7_method_6_code 20 = .ok (.ifCond .lt (54), 3) := by decide +kernel
theorem dMO_find_23 : decode prog_7_method_6_code 23 = .ok (.aload_n 0, 1) := by decide +kernel
theorem dMO_find_24 : decode prog_7_method_6_code 24 = .ok (.iload_n 2, 1) := by decide +kernel
theorem dMO_find_25 : decode prog_7_method_6_code 25 = .ok (.ifCond .eq (20), 3) := by decide +kernel
theorem dMO_find_28 : decode prog_7_method_6_code 28 = .ok (.iload_n 3, 1) := by decide +kernel
theorem dMO_find_29 : decode prog_7_method_6_code 29 = .ok (.aload_n 0, 1) := by decide +kernel
theorem dMO_find_30 : decode prog_7_method_6_code 30 = .ok (.getfield 66, 3) := by decide +kernel
theorem dMO_find_33 : decode prog_7_method_6_code 33 = .ok (.if_icmp .ge (12), 3) := by decide +kernel
theorem dMO_find_36 : decode prog_7_method_6_code 36 = .ok (.aload_n 0, 1) := by decide +kernel
theorem dMO_find_37 : decode prog_7_method_6_code 37 = .ok (.getfield 91, 3) := by decide +kernel
theorem dMO_find_40 : decode prog_7_method_6_code 40 = .ok (.iconst 1, 1) := by decide +kernel
theorem dMO_find_41 : decode prog_7_method_6_code 41 = .ok (.iadd, 1) := by decide +kernel
theorem dMO_find_42 : decode prog_7_method_6_code 42 = .ok (.goto (7), 3) := by decide +kernel
theorem dMO_find_45 : decode prog_7_method_6_code 45 = .ok (.aload_n 0, 1) := by decide +kernel
theorem dMO_find_46 : decode prog_7_method_6_code 46 = .ok (.getfield 91, 3) := by decide +kernel
theorem dMO_find_49 : decode prog_7_method_6_code 49 = .ok (.putfield 91, 3) := by decide +kernel
theorem dMO_find_52 : decode prog_7_method_6_code 52 = .ok (.aload_n 0, 1) := by decide +kernel
theorem dMO_find_53 : decode prog_7_method_6_code 53 = .ok (.getfield 7, 3) := by decide +kernel
theorem dMO_find_56 : decode prog_7_method_6_code 56 = .ok (.iload_n 3, 1) := by decide +kernel
theorem dMO_find_57 : decode prog_7_method_6_code 57 = .ok (.iaload, 1) := by decide +kernel
theorem dMO_find_58 : decode prog_7_method_6_code 58 = .ok (.iload_n 1, 1) := by decide +kernel
theorem dMO_find_59 : decode prog_7_method_6_code 59 = .ok (.if_icmp .ne (5), 3) := by decide +kernel
theorem dMO_find_62 : decode prog_7_method_6_code 62 = .ok (.iload_n 3, 1) := by decide +kernel
theorem dMO_find_63 : decode prog_7_method_6_code 63 = .ok (.ireturn, 1) := by decide +kernel
theorem dMO_find_64 : decode prog_7_method_6_code 64 = .ok (.aload_n 0, 1) := by decide +kernel
theorem dMO_find_65 : decode prog_7_method_6_code 65 = .ok (.getfield 16, 3) := by decide +kernel
theorem dMO_find_68 : decode prog_7_method_6_code 68 = .ok (.iload_n 3, 1) := by decide +kernel
theorem dMO_find_69 : decode prog_7_method_6_code 69 = .ok (.iaload, 1) := by decide +kernel
theorem dMO_find_70 : decode prog_7_method_6_code 70 = .ok (.istore_n 3, 1) := by decide +kernel
theorem dMO_find_71 : decode prog_7_method_6_code 71 = .ok (.goto (-60), 3) := by decide +kernel
theorem dMO_find_74 : decode prog_7_method_6_code 74 = .ok (.iconst (-1), 1) := by decide +kernel
theorem dMO_find_75 : decode prog_7_method_6_code 75 = .ok (.ireturn, 1) := by decide +kernel
theorem dMO_block_0 : decode prog_7_method_7_code 0 = .ok (.aload_n 0, 1) := by decide +kernel
theorem dMO_block_1 : decode prog_7_method_7_code 1 = .ok (.dup, 1) := by decide +kernel
theorem dMO_block_2 : decode prog_7_method_7_code 2 = .ok (.getfield 94, 3) := by decide +kernel
theorem dMO_block_5 : decode prog_7_method_7_code 5 = .ok (.iconst 1, 1) := by decide +kernel
theorem dMO_block_6 : decode prog_7_method_7_code 6 = .ok (.iadd, 1) := by decide +kernel
theorem dMO_block_7 : decode prog_7_method_7_code 7 = .ok (.putfield 94, 3) := by decide +kernel
theorem dMO_block_10 : decode prog_7_method_7_code 10 = .ok (.aload_n 0, 1) := by decide +kernel
theorem dMO_block_11 : decode prog_7_method_7_code 11 = .ok (.getfield 97, 3) := by decide +kernel
theorem dMO_block_14 : decode prog_7_method_7_code 14 = .ok (.iconst 1, 1) := by decide +kernel
theorem dMO_block_15 : decode prog_7_method_7_code 15 = .ok (.if_icmp .ne (7), 3) := by decide +kernel
theorem dMO_block_18 : decode prog_7_method_7_code 18 = .ok (.iconst 1, 1) := by decide +kernel
theorem dMO_block_19 : decode prog_7_method_7_code 19 = .ok (.goto (4), 3) := by decide +kernel
theorem dMO_block_22 : decode prog_7_method_7_code 22 = .ok (.iconst 0, 1) := by decide +kernel
theorem dMO_block_23 : decode prog_7_method_7_code 23 = .ok (.istore_n 1, 1) := by decide +kernel
theorem dMO_block_24 : decode prog_7_method_7_code 24 = .ok (.aload_n 0, 1) := by decide +kernel
theorem dMO_block_25 : decode prog_7_method_7_code 25 = .ok (.aload_n 0, 1) := by decide +kernel
theorem dMO_block_26 : decode prog_7_method_7_code 26 = .ok (.getfield 97, 3) := by decide +kernel
theorem dMO_block_29 : decode prog_7_method_7_code 29 = .ok (.ifCond .le (12), 3) := by decide +kernel
theorem dMO_block_32 : decode prog_7_method_7_code 32 = .ok (.aload_n 0, 1) := by decide +kernel
theorem dMO_block_33 : decode prog_7_method_7_code 33 = .ok (.getfield 97, 3) := by decide +kernel
theorem dMO_block_36 : decode prog_7_method_7_code 36 = .ok (.iconst 1, 1) := by decide +kernel
theorem dMO_block_37 : decode prog_7_method_7_code 37 = .ok (.isub, 1) := by decide +kernel
theorem dMO_block_38 : decode prog_7_method_7_code 38 = .ok (.goto (4), 3) := by decide +kernel
theorem dMO_block_41 : decode prog_7_method_7_code 41 = .ok (.iconst 0, 1) := by decide +kernel
theorem dMO_block_42 : decode prog_7_method_7_code 42 = .ok (.putfield 97, 3) := by decide +kernel
theorem dMO_block_45 : decode prog_7_method_7_code 45 = .ok (.aload_n 0, 1) := by decide +kernel
theorem dMO_block_46 : decode prog_7_method_7_code 46 = .ok (.aload_n 0, 1) := by decide +kernel
theorem dMO_block_47 : decode prog_7_method_7_code 47 = .ok (.getfield 100, 3) := by decide +kernel
theorem dMO_block_50 : decode prog_7_method_7_code 50 = .ok (.ifCond .ne (7), 3) := by decide +kernel
theorem dMO_block_53 : decode prog_7_method_7_code 53 = .ok (.iload_n 1, 1) := by decide +kernel
theorem dMO_block_54 : decode prog_7_method_7_code 54 = .ok (.ifCond .eq (7), 3) := by decide +kernel
theorem dMO_block_57 : decode prog_7_method_7_code 57 = .ok (.iconst 1, 1) := by decide +kernel
theorem dMO_block_58 : decode prog_7_method_7_code 58 = .ok (.goto (4), 3) := by decide +kernel
theorem dMO_block_61 : decode prog_7_method_7_code 61 = .ok (.iconst 0, 1) := by decide +kernel
theorem dMO_block_62 : decode prog_7_method_7_code 62 = .ok (.putfield 100, 3) := by decide +kernel
theorem dMO_block_65 : decode prog_7_method_7_code 65 = .ok (.iload_n 1, 1) := by decide +kernel
theorem dMO_block_66 : decode prog_7_method_7_code 66 = .ok (.ifCond .ne (7), 3) := by decide +kernel
theorem dMO_block_69 : decode prog_7_method_7_code 69 = .ok (.iconst 1, 1) := by decide +kernel
theorem dMO_block_70 : decode prog_7_method_7_code 70 = .ok (.goto (4), 3) := by decide +kernel
theorem dMO_block_73 : decode prog_7_method_7_code 73 = .ok (.iconst 0, 1) := by decide +kernel
theorem dMO_block_74 : decode prog_7_method_7_code 74 = .ok (.ireturn, 1) := by decide +kernel
theorem dMO_pageEnd_0 : decode prog_7_method_8_code 0 = .ok (.iload_n 0, 1) := by decide +kernel
theorem dMO_pageEnd_1 : decode prog_7_method_8_code 1 = .ok (.iload_n 0, 1) := by decide +kernel
theorem dMO_pageEnd_2 : decode prog_7_method_8_code 2 = .ok (.iconst 4, 1) := by decide +kernel
theorem dMO_pageEnd_3 : decode prog_7_method_8_code 3 = .ok (.irem, 1) := by decide +kernel
theorem dMO_pageEnd_4 : decode prog_7_method_8_code 4 = .ok (.isub, 1) := by decide +kernel
theorem dMO_pageEnd_5 : decode prog_7_method_8_code 5 = .ok (.iconst 4, 1) := by decide +kernel
theorem dMO_pageEnd_6 : decode prog_7_method_8_code 6 = .ok (.iadd, 1) := by decide +kernel
theorem dMO_pageEnd_7 : decode prog_7_method_8_code 7 = .ok (.ireturn, 1) := by decide +kernel
theorem dMO_flush_0 : decode prog_7_method_9_code 0 = .ok (.aload_n 0, 1) := by decide +kernel
theorem dMO_flush_1 : decode prog_7_method_9_code 1 = .ok (.getfield 69, 3) := by decide +kernel
theorem dMO_flush_4 : decode prog_7_method_9_code 4 = .ok (.iload_n 1, 1) := by decide +kernel
theorem dMO_flush_5 : decode prog_7_method_9_code 5 = .ok (.if_icmp .ge (38), 3) := by decide +kernel
theorem dMO_flush_8 : decode prog_7_method_9_code 8 = .ok (.aload_n 0, 1) := by decide +kernel
theorem dMO_flush_9 : decode prog_7_method_9_code 9 = .ok (.aload_n 0, 1) := by decide +kernel
theorem dMO_flush_10 : decode prog_7_method_9_code 10 = .ok (.getfield 69, 3) := by decide +kernel
theorem dMO_flush_13 : decode prog_7_method_9_code 13 = .ok (.invokestatic 104, 3) := by decide +kernel
theorem dMO_flush_16 : decode prog_7_method_9_code 16 = .ok (.iload_n 1, 1) := by decide +kernel
theorem dMO_flush_17 : decode prog_7_method_9_code 17 = .ok (.if_icmp .ge (13), 3) := by decide +kernel
theorem dMO_flush_20 : decode prog_7_method_9_code 20 = .ok (.aload_n 0, 1) := by decide +kernel
theorem dMO_flush_21 : decode prog_7_method_9_code 21 = .ok (.getfield 69, 3) := by decide +kernel
theorem dMO_flush_24 : decode prog_7_method_9_code 24 = .ok (.invokestatic 104, 3) := by decide +kernel
theorem dMO_flush_27 : decode prog_7_method_9_code 27 = .ok (.goto (4), 3) := by decide +kernel
theorem dMO_flush_30 : decode prog_7_method_9_code 30 = .ok (.iload_n 1, 1) := by decide +kernel
theorem dMO_flush_31 : decode prog_7_method_9_code 31 = .ok (.putfield 69, 3) := by decide +kernel
theorem dMO_flush_34 : decode prog_7_method_9_code 34 = .ok (.aload_n 0, 1) := by decide +kernel
theorem dMO_flush_35 : decode prog_7_method_9_code 35 = .ok (.invokevirtual 107, 3) := by decide +kernel
theorem dMO_flush_38 : decode prog_7_method_9_code 38 = .ok (.ifCond .ne (-38), 3) := by decide +kernel
theorem dMO_flush_41 : decode prog_7_method_9_code 41 = .ok (.iconst 0, 1) := by decide +kernel
theorem dMO_flush_42 : decode prog_7_method_9_code 42 = .ok (.ireturn, 1) := by decide +kernel
theorem dMO_flush_43 : decode prog_7_method_9_code 43 = .ok (.iconst 1, 1) := by decide +kernel
theorem dMO_flush_44 : decode prog_7_method_9_code 44 = .ok (.ireturn, 1) := by decide +kernel
theorem dMO_room_0 : decode prog_7_method_10_code 0 = .ok (.aload_n 0, 1) := by decide +kernel
theorem dMO_room_1 : decode prog_7_method_10_code 1 = .ok (.getfield 75, 3) := by decide +kernel
theorem dMO_room_4 : decode prog_7_method_10_code 4 = .ok (.iconst 4, 1) := by decide +kernel
theorem dMO_room_5 : decode prog_7_method_10_code 5 = .ok (.irem, 1) := by decide +kernel
theorem dMO_room_6 : decode prog_7_method_10_code 6 = .ok (.ifCond .eq (5), 3) := by decide +kernel
theorem dMO_room_9 : decode prog_7_method_10_code 9 = .ok (.iconst 1, 1) := by decide +kernel
theorem dMO_room_10 : decode prog_7_method_10_code 10 = .ok (.ireturn, 1) := by decide +kernel
theorem dMO_room_11 : decode prog_7_method_10_code 11 = .ok (.aload_n 0, 1) := by decide +kernel
theorem dMO_room_12 : decode prog_7_method_10_code 12 = .ok (.getfield 75, 3) := by decide +kernel
theorem dMO_room_15 : decode prog_7_method_10_code 15 = .ok (.iconst 4, 1) := by decide +kernel
