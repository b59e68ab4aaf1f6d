theorem dMO_compact_41 : decode prog_7_method_24_code 41 = .ok (.ireturn, 1) := by decide +kernel
theorem dMO_compact_42 : decode prog_7_method_24_code 42 = .ok (.iconst 0, 1) := by decide +kernel
theorem dMO_compact_43 : decode prog_7_method_24_code 43 = .ok (.istore_n 2, 1) := by decide +kernel
theorem dMO_compact_44 : decode prog_7_method_24_code 44 = .ok (.aload_n 0, 1) := by decide +kernel
theorem dMO_compact_45 : decode prog_7_method_24_code 45 = .ok (.getfield 63, 3) := by decide +kernel
theorem dMO_compact_48 : decode prog_7_method_24_code 48 = .ok (.istore_n 3, 1) := by decide +kernel
theorem dMO_compact_49 : decode prog_7_method_24_code 49 = .ok (.iload_n 3, 1) := by decide +kernel
theorem dMO_compact_50 : decode prog_7_method_24_code 50 = .ok (.iload_n 1, 1) := by decide +kernel
theorem dMO_compact_51 : decode prog_7_method_24_code 51 = .ok (.if_icmp .ge (69), 3) := by decide +kernel
theorem dMO_compact_54 : decode prog_7_method_24_code 54 = .ok (.aload_n 0, 1) := by decide +kernel
theorem dMO_compact_55 : decode prog_7_method_24_code 55 = .ok (.dup, 1) := by decide +kernel
theorem dMO_compact_56 : decode prog_7_method_24_code 56 = .ok (.getfield 91, 3) := by decide +kernel
theorem dMO_compact_59 : decode prog_7_method_24_code 59 = .ok (.iconst 1, 1) := by decide +kernel
theorem dMO_compact_60 : decode prog_7_method_24_code 60 = .ok (.iadd, 1) := by decide +kernel
theorem dMO_compact_61 : decode prog_7_method_24_code 61 = .ok (.putfield 91, 3) := by decide +kernel
theorem dMO_compact_64 : decode prog_7_method_24_code 64 = .ok (.aload_n 0, 1) := by decide +kernel
theorem dMO_compact_65 : decode prog_7_method_24_code 65 = .ok (.aload_n 0, 1) := by decide +kernel
theorem dMO_compact_66 : decode prog_7_method_24_code 66 = .ok (.getfield 7, 3) := by decide +kernel
theorem dMO_compact_69 : decode prog_7_method_24_code 69 = .ok (.iload_n 3, 1) := by decide +kernel
theorem dMO_compact_70 : decode prog_7_method_24_code 70 = .ok (.iaload, 1) := by decide +kernel
theorem dMO_compact_71 : decode prog_7_method_24_code 71 = .ok (.iconst 0, 1) := by decide +kernel
theorem dMO_compact_72 : decode prog_7_method_24_code 72 = .ok (.invokevirtual 125, 3) := by decide +kernel
theorem dMO_compact_75 : decode prog_7_method_24_code 75 = .ok (.iload_n 3, 1) := by decide +kernel
theorem dMO_compact_76 : decode prog_7_method_24_code 76 = .ok (.if_icmp .ne (38), 3) := by decide +kernel
theorem dMO_compact_79 : decode prog_7_method_24_code 79 = .ok (.aload_n 0, 1) := by decide +kernel
theorem dMO_compact_80 : decode prog_7_method_24_code 80 = .ok (.getfield 22, 3) := by decide +kernel
theorem dMO_compact_83 : decode prog_7_method_24_code 83 = .ok (.iload_n 3, 1) := by decide +kernel
theorem dMO_compact_84 : decode prog_7_method_24_code 84 = .ok (.baload, 1) := by decide +kernel
theorem dMO_compact_85 : decode prog_7_method_24_code 85 = .ok (.ifCond .ne (29), 3) := by decide +kernel
theorem dMO_compact_88 : decode prog_7_method_24_code 88 = .ok (.aload_n 0, 1) := by decide +kernel
theorem dMO_compact_89 : decode prog_7_method_24_code 89 = .ok (.aload_n 0, 1) := by decide +kernel
theorem dMO_compact_90 : decode prog_7_method_24_code 90 = .ok (.getfield 7, 3) := by decide +kernel
theorem dMO_compact_93 : decode prog_7_method_24_code 93 = .ok (.iload_n 3, 1) := by decide +kernel
theorem dMO_compact_94 : decode prog_7_method_24_code 94 = .ok (.iaload, 1) := by decide +kernel
theorem dMO_compact_95 : decode prog_7_method_24_code 95 = .ok (.aload_n 0, 1) := by decide +kernel
theorem dMO_compact_96 : decode prog_7_method_24_code 96 = .ok (.getfield 13, 3) := by decide +kernel
theorem dMO_compact_99 : decode prog_7_method_24_code 99 = .ok (.iload_n 3, 1) := by decide +kernel
theorem dMO_compact_100 : decode prog_7_method_24_code 100 = .ok (.iaload, 1) := by decide +kernel
theorem dMO_compact_101 : decode prog_7_method_24_code 101 = .ok (.iconst 0, 1) := by decide +kernel
theorem dMO_compact_102 : decode prog_7_method_24_code 102 = .ok (.invokevirtual 118, 3) := by decide +kernel
theorem dMO_compact_105 : decode prog_7_method_24_code 105 = .ok (.ifCond .ne (6), 3) := by decide +kernel
theorem dMO_compact_108 : decode prog_7_method_24_code 108 = .ok (.bipush (-9), 2) := by decide +kernel
theorem dMO_compact_110 : decode prog_7_method_24_code 110 = .ok (.ireturn, 1) := by decide +kernel
theorem dMO_compact_111 : decode prog_7_method_24_code 111 = .ok (.iinc 2 1, 3) := by decide +kernel
theorem dMO_compact_114 : decode prog_7_method_24_code 114 = .ok (.iinc 3 1, 3) := by decide +kernel
theorem dMO_compact_117 : decode prog_7_method_24_code 117 = .ok (.goto (-68), 3) := by decide +kernel
theorem dMO_compact_120 : decode prog_7_method_24_code 120 = .ok (.aload_n 0, 1) := by decide +kernel
theorem dMO_compact_121 : decode prog_7_method_24_code 121 = .ok (.iload_n 1, 1) := by decide +kernel
theorem dMO_compact_122 : decode prog_7_method_24_code 122 = .ok (.putfield 63, 3) := by decide +kernel
theorem dMO_compact_125 : decode prog_7_method_24_code 125 = .ok (.iload_n 2, 1) := by decide +kernel
theorem dMO_compact_126 : decode prog_7_method_24_code 126 = .ok (.ireturn, 1) := by decide +kernel
theorem dMO_fuse_0 : decode prog_7_method_25_code 0 = .ok (.aload_n 0, 1) := by decide +kernel
theorem dMO_fuse_1 : decode prog_7_method_25_code 1 = .ok (.getfield 100, 3) := by decide +kernel
theorem dMO_fuse_4 : decode prog_7_method_25_code 4 = .ok (.ifCond .ne (14), 3) := by decide +kernel
theorem dMO_fuse_7 : decode prog_7_method_25_code 7 = .ok (.iload_n 1, 1) := by decide +kernel
theorem dMO_fuse_8 : decode prog_7_method_25_code 8 = .ok (.iconst 1, 1) := by decide +kernel
theorem dMO_fuse_9 : decode prog_7_method_25_code 9 = .ok (.if_icmp .lt (9), 3) := by decide +kernel
theorem dMO_fuse_12 : decode prog_7_method_25_code 12 = .ok (.iload_n 1, 1) := by decide +kernel
theorem dMO_fuse_13 : decode prog_7_method_25_code 13 = .ok (.bipush 50, 2) := by decide +kernel
theorem dMO_fuse_15 : decode prog_7_method_25_code 15 = .ok (.if_icmp .le (5), 3) := by decide +kernel
theorem dMO_fuse_18 : decode prog_7_method_25_code 18 = .ok (.iconst 0, 1) := by decide +kernel
theorem dMO_fuse_19 : decode prog_7_method_25_code 19 = .ok (.ireturn, 1) := by decide +kernel
theorem dMO_fuse_20 : decode prog_7_method_25_code 20 = .ok (.aload_n 0, 1) := by decide +kernel
theorem dMO_fuse_21 : decode prog_7_method_25_code 21 = .ok (.iload_n 1, 1) := by decide +kernel
theorem dMO_fuse_22 : decode prog_7_method_25_code 22 = .ok (.putfield 97, 3) := by decide +kernel
theorem dMO_fuse_25 : decode prog_7_method_25_code 25 = .ok (.iconst 1, 1) := by decide +kernel
theorem dMO_fuse_26 : decode prog_7_method_25_code 26 = .ok (.ireturn, 1) := by decide +kernel
theorem dMO_recover_0 : decode prog_7_method_26_code 0 = .ok (.aload_n 0, 1) := by decide +kernel
theorem dMO_recover_1 : decode prog_7_method_26_code 1 = .ok (.getfield 100, 3) := by decide +kernel
theorem dMO_recover_4 : decode prog_7_method_26_code 4 = .ok (.ifCond .ne (6), 3) := by decide +kernel
theorem dMO_recover_7 : decode prog_7_method_26_code 7 = .ok (.bipush (-3), 2) := by decide +kernel
theorem dMO_recover_9 : decode prog_7_method_26_code 9 = .ok (.ireturn, 1) := by decide +kernel
theorem dMO_recover_10 : decode prog_7_method_26_code 10 = .ok (.aload_n 0, 1) := by decide +kernel
theorem dMO_recover_11 : decode prog_7_method_26_code 11 = .ok (.iconst 0, 1) := by decide +kernel
theorem dMO_recover_12 : decode prog_7_method_26_code 12 = .ok (.putfield 100, 3) := by decide +kernel
theorem dMO_recover_15 : decode prog_7_method_26_code 15 = .ok (.aload_n 0, 1) := by decide +kernel
theorem dMO_recover_16 : decode prog_7_method_26_code 16 = .ok (.iconst 0, 1) := by decide +kernel
theorem dMO_recover_17 : decode prog_7_method_26_code 17 = .ok (.putfield 136, 3) := by decide +kernel
theorem dMO_recover_20 : decode prog_7_method_26_code 20 = .ok (.aload_n 0, 1) := by decide +kernel
theorem dMO_recover_21 : decode prog_7_method_26_code 21 = .ok (.invokevirtual 60, 3) := by decide +kernel
theorem dMO_recover_24 : decode prog_7_method_26_code 24 = .ok (.aload_n 0, 1) := by decide +kernel
theorem dMO_recover_25 : decode prog_7_method_26_code 25 = .ok (.getfield 57, 3) := by decide +kernel
theorem dMO_recover_28 : decode prog_7_method_26_code 28 = .ok (.ifCond .ge (5), 3) := by decide +kernel
theorem dMO_recover_31 : decode prog_7_method_26_code 31 = .ok (.iconst 0, 1) := by decide +kernel
theorem dMO_recover_32 : decode prog_7_method_26_code 32 = .ok (.ireturn, 1) := by decide +kernel
theorem dMO_recover_33 : decode prog_7_method_26_code 33 = .ok (.aload_n 0, 1) := by decide +kernel
theorem dMO_recover_34 : decode prog_7_method_26_code 34 = .ok (.aload_n 0, 1) := by decide +kernel
theorem dMO_recover_35 : decode prog_7_method_26_code 35 = .ok (.getfield 32, 3) := by decide +kernel
theorem dMO_recover_38 : decode prog_7_method_26_code 38 = .ok (.aload_n 0, 1) := by decide +kernel
theorem dMO_recover_39 : decode prog_7_method_26_code 39 = .ok (.getfield 57, 3) := by decide +kernel
theorem dMO_recover_42 : decode prog_7_method_26_code 42 = .ok (.iaload, 1) := by decide +kernel
theorem dMO_recover_43 : decode prog_7_method_26_code 43 = .ok (.putfield 63, 3) := by decide +kernel
theorem dMO_recover_46 : decode prog_7_method_26_code 46 = .ok (.aload_n 0, 1) := by decide +kernel
theorem dMO_recover_47 : decode prog_7_method_26_code 47 = .ok (.aload_n 0, 1) := by decide +kernel
theorem dMO_recover_48 : decode prog_7_method_26_code 48 = .ok (.getfield 38, 3) := by decide +kernel
theorem dMO_recover_51 : decode prog_7_method_26_code 51 = .ok (.aload_n 0, 1) := by decide +kernel
theorem dMO_recover_52 : decode prog_7_method_26_code 52 = .ok (.getfield 57, 3) := by decide +kernel
theorem dMO_recover_55 : decode prog_7_method_26_code 55 = .ok (.iaload, 1) := by decide +kernel
theorem dMO_recover_56 : decode prog_7_method_26_code 56 = .ok (.putfield 66, 3) := by decide +kernel
theorem dMO_recover_59 : decode prog_7_method_26_code 59 = .ok (.aload_n 0, 1) := by decide +kernel
theorem dMO_recover_60 : decode prog_7_method_26_code 60 = .ok (.aload_n 0, 1) := by decide +kernel
theorem dMO_recover_61 : decode prog_7_method_26_code 61 = .ok (.getfield 66, 3) := by decide +kernel
theorem dMO_recover_64 : decode prog_7_method_26_code 64 = .ok (.putfield 69, 3) := by decide +kernel
theorem dMO_recover_67 : decode prog_7_method_26_code 67 = .ok (.aload_n 0, 1) := by decide +kernel
theorem dMO_recover_68 : decode prog_7_method_26_code 68 = .ok (.aload_n 0, 1) := by decide +kernel
theorem dMO_recover_69 : decode prog_7_method_26_code 69 = .ok (.getfield 66, 3) := by decide +kernel
theorem dMO_recover_72 : decode prog_7_method_26_code 72 = .ok (.putfield 72, 3) := by decide +kernel
theorem dMO_recover_75 : decode prog_7_method_26_code 75 = .ok (.aload_n 0, 1) := by decide +kernel
theorem dMO_recover_76 : decode prog_7_method_26_code 76 = .ok (.aload_n 0, 1) := by decide +kernel
theorem dMO_recover_77 : decode prog_7_method_26_code 77 = .ok (.getfield 66, 3) := by decide +kernel
theorem dMO_recover_80 : decode prog_7_method_26_code 80 = .ok (.putfield 75, 3) := by decide +kernel
theorem dMO_recover_83 : decode prog_7_method_26_code 83 = .ok (.aload_n 0, 1) := by decide +kernel
theorem dMO_recover_84 : decode prog_7_method_26_code 84 = .ok (.aload_n 0, 1) := by decide +kernel
theorem dMO_recover_85 : decode prog_7_method_26_code 85 = .ok (.getfield 41, 3) := by decide +kernel
theorem dMO_recover_88 : decode prog_7_method_26_code 88 = .ok (.aload_n 0, 1) := by decide +kernel
theorem dMO_recover_89 : decode prog_7_method_26_code 89 = .ok (.getfield 57, 3) := by decide +kernel
theorem dMO_recover_92 : decode prog_7_method_26_code 92 = .ok (.iaload, 1) := by decide +kernel
theorem dMO_recover_93 : decode prog_7_method_26_code 93 = .ok (.putfield 78, 3) := by decide +kernel
theorem dMO_recover_96 : decode prog_7_method_26_code 96 = .ok (.aload_n 0, 1) := by decide +kernel
theorem dMO_recover_97 : decode prog_7_method_26_code 97 = .ok (.aload_n 0, 1) := by decide +kernel
theorem dMO_recover_98 : decode prog_7_method_26_code 98 = .ok (.getfield 44, 3) := by decide +kernel
theorem dMO_recover_101 : decode prog_7_method_26_code 101 = .ok (.aload_n 0, 1) := by decide +kernel
theorem dMO_recover_102 : decode prog_7_method_26_code 102 = .ok (.getfield 57, 3) := by decide +kernel
theorem dMO_recover_105 : decode prog_7_method_26_code 105 = .ok (.iaload, 1) := by decide +kernel
theorem dMO_recover_106 : decode prog_7_method_26_code 106 = .ok (.putfield 81, 3) := by decide +kernel
theorem dMO_recover_109 : decode prog_7_method_26_code 109 = .ok (.iconst 0, 1) := by decide +kernel
theorem dMO_recover_110 : decode prog_7_method_26_code 110 = .ok (.istore_n 1, 1) := by decide +kernel
theorem dMO_recover_111 : decode prog_7_method_26_code 111 = .ok (.iload_n 1, 1) := by decide +kernel
theorem dMO_recover_112 : decode prog_7_method_26_code 112 = .ok (.aload_n 0, 1) := by decide +kernel
theorem dMO_recover_113 : decode prog_7_method_26_code 113 = .ok (.invokevirtual 145, 3) := by decide +kernel
theorem dMO_recover_116 : decode prog_7_method_26_code 116 = .ok (.if_icmp .ge (64), 3) := by decide +kernel
theorem dMO_recover_119 : decode prog_7_method_26_code 119 = .ok (.aload_n 0, 1) := by decide +kernel
theorem dMO_recover_120 : decode prog_7_method_26_code 120 = .ok (.getfield 47, 3) := by decide +kernel
theorem dMO_recover_123 : decode prog_7_method_26_code 123 = .ok (.bipush 16, 2) := by decide +kernel
theorem dMO_recover_125 : decode prog_7_method_26_code 125 = .ok (.aload_n 0, 1) := by decide +kernel
theorem dMO_recover_126 : decode prog_7_method_26_code 126 = .ok (.getfield 57, 3) := by decide +kernel
theorem dMO_recover_129 : decode prog_7_method_26_code 129 = .ok (.imul, 1) := by decide +kernel
theorem dMO_recover_130 : decode prog_7_method_26_code 130 = .ok (.iload_n 1, 1) := by decide +kernel
theorem dMO_recover_131 : decode prog_7_method_26_code 131 = .ok (.iadd, 1) := by decide +kernel
theorem dMO_recover_132 : decode prog_7_method_26_code 132 = .ok (.iaload, 1) := by decide +kernel
theorem dMO_recover_133 : decode prog_7_method_26_code 133 = .ok (.istore_n 2, 1) := by decide +kernel
theorem dMO_recover_134 : decode prog_7_method_26_code 134 = .ok (.iload_n 2, 1) := by decide +kernel
theorem dMO_recover_135 : decode prog_7_method_26_code 135 = .ok (.aload_n 0, 1) := by decide +kernel
theorem dMO_recover_136 : decode prog_7_method_26_code 136 = .ok (.getfield 35, 3) := by decide +kernel
theorem dMO_recover_139 : decode prog_7_method_26_code 139 = .ok (.aload_n 0, 1) := by decide +kernel
theorem dMO_recover_140 : decode prog_7_method_26_code 140 = .ok (.getfield 57, 3) := by decide +kernel
theorem dMO_recover_143 : decode prog_7_method_26_code 143 = .ok (.iaload, 1) := by decide +kernel
theorem dMO_recover_144 : decode prog_7_method_26_code 144 = .ok (.if_icmp .lt (23), 3) := by decide +kernel
theorem dMO_recover_147 : decode prog_7_method_26_code 147 = .ok (.aload_n 0, 1) := by decide +kernel
theorem dMO_recover_148 : decode prog_7_method_26_code 148 = .ok (.dup, 1) := by decide +kernel
theorem dMO_recover_149 : decode prog_7_method_26_code 149 = .ok (.getfield 91, 3) := by decide +kernel
theorem dMO_recover_152 : decode prog_7_method_26_code 152 = .ok (.iconst 1, 1) := by decide +kernel
theorem dMO_recover_153 : decode prog_7_method_26_code 153 = .ok (.iadd, 1) := by decide +kernel
theorem dMO_recover_154 : decode prog_7_method_26_code 154 = .ok (.putfield 91, 3) := by decide +kernel
theorem dMO_recover_157 : decode prog_7_method_26_code 157 = .ok (.aload_n 0, 1) := by decide +kernel
theorem dMO_recover_158 : decode prog_7_method_26_code 158 = .ok (.getfield 16, 3) := by decide +kernel
theorem dMO_recover_161 : decode prog_7_method_26_code 161 = .ok (.iload_n 2, 1) := by decide +kernel
theorem dMO_recover_162 : decode prog_7_method_26_code 162 = .ok (.iaload, 1) := by decide +kernel
theorem dMO_recover_163 : decode prog_7_method_26_code 163 = .ok (.istore_n 2, 1) := by decide +kernel
theorem dMO_recover_164 : decode prog_7_method_26_code 164 = .ok (.goto (-30), 3) := by decide +kernel
theorem dMO_recover_167 : decode prog_7_method_26_code 167 = .ok (.aload_n 0, 1) := by decide +kernel
theorem dMO_recover_168 : decode prog_7_method_26_code 168 = .ok (.getfield 26, 3) := by decide +kernel
theorem dMO_recover_171 : decode prog_7_method_26_code 171 = .ok (.iload_n 1, 1) := by decide +kernel
theorem dMO_recover_172 : decode prog_7_method_26_code 172 = .ok (.iload_n 2, 1) := by decide +kernel
theorem dMO_recover_173 : decode prog_7_method_26_code 173 = .ok (.iastore, 1) := by decide +kernel
theorem dMO_recover_174 : decode prog_7_method_26_code 174 = .ok (.iinc 1 1, 3) := by decide +kernel
theorem dMO_recover_177 : decode prog_7_method_26_code 177 = .ok (.goto (-66), 3) := by decide +kernel
theorem dMO_recover_180 : decode prog_7_method_26_code 180 = .ok (.aload_n 0, 1) := by decide +kernel
theorem dMO_recover_181 : decode prog_7_method_26_code 181 = .ok (.aload_n 0, 1) := by decide +kernel
theorem dMO_recover_182 : decode prog_7_method_26_code 182 = .ok (.getfield 29, 3) := by decide +kernel
theorem dMO_recover_185 : decode prog_7_method_26_code 185 = .ok (.aload_n 0, 1) := by decide +kernel
theorem dMO_recover_186 : decode prog_7_method_26_code 186 = .ok (.getfield 57, 3) := by decide +kernel
theorem dMO_recover_189 : decode prog_7_method_26_code 189 = .ok (.iaload, 1) := by decide +kernel
theorem dMO_recover_190 : decode prog_7_method_26_code 190 = .ok (.iconst 2, 1) := by decide +kernel
theorem dMO_recover_191 : decode prog_7_method_26_code 191 = .ok (.iadd, 1) := by decide +kernel
theorem dMO_recover_192 : decode prog_7_method_26_code 192 = .ok (.putfield 84, 3) := by decide +kernel
theorem dMO_recover_195 : decode prog_7_method_26_code 195 = .ok (.aload_n 0, 1) := by decide +kernel
theorem dMO_recover_196 : decode prog_7_method_26_code 196 = .ok (.getfield 29, 3) := by decide +kernel
theorem dMO_recover_199 : decode prog_7_method_26_code 199 = .ok (.aload_n 0, 1) := by decide +kernel
theorem dMO_recover_200 : decode prog_7_method_26_code 200 = .ok (.getfield 57, 3) := by decide +kernel
theorem dMO_recover_203 : decode prog_7_method_26_code 203 = .ok (.iaload, 1) := by decide +kernel
theorem dMO_recover_204 : decode prog_7_method_26_code 204 = .ok (.ireturn, 1) := by decide +kernel
theorem dMO_address_0 : decode prog_7_method_27_code 0 = .ok (.aload_n 0, 1) := by decide +kernel
theorem dMO_address_1 : decode prog_7_method_27_code 1 = .ok (.getfield 100, 3) := by decide +kernel
theorem dMO_address_4 : decode prog_7_method_27_code 4 = .ok (.ifCond .eq (6), 3) := by decide +kernel
theorem dMO_address_7 : decode prog_7_method_27_code 7 = .ok (.bipush (-9), 2) := by decide +kernel
theorem dMO_address_9 : decode prog_7_method_27_code 9 = .ok (.ireturn, 1) := by decide +kernel
theorem dMO_address_10 : decode prog_7_method_27_code 10 = .ok (.iload_n 1, 1) := by decide +kernel
theorem dMO_address_11 : decode prog_7_method_27_code 11 = .ok (.ifCond .ne (10), 3) := by decide +kernel
theorem dMO_address_14 : decode prog_7_method_27_code 14 = .ok (.aload_n 0, 1) := by decide +kernel
theorem dMO_address_15 : decode prog_7_method_27_code 15 = .ok (.getfield 63, 3) := by decide +kernel
theorem dMO_address_18 : decode prog_7_method_27_code 18 = .ok (.goto (52), 3) := by decide +kernel
theorem dMO_address_21 : decode prog_7_method_27_code 21 = .ok (.iload_n 1, 1) := by decide +kernel
theorem dMO_address_22 : decode prog_7_method_27_code 22 = .ok (.iconst 1, 1) := by decide +kernel
theorem dMO_address_23 : decode prog_7_method_27_code 23 = .ok (.if_icmp .ne (10), 3) := by decide +kernel
theorem dMO_address_26 : decode prog_7_method_27_code 26 = .ok (.aload_n 0, 1) := by decide +kernel
theorem dMO_address_27 : decode prog_7_method_27_code 27 = .ok (.getfield 66, 3) := by decide +kernel
theorem dMO_address_30 : decode prog_7_method_27_code 30 = .ok (.goto (40), 3) := by decide +kernel
theorem dMO_address_33 : decode prog_7_method_27_code 33 = .ok (.iload_n 1, 1) := by decide +kernel
theorem dMO_address_34 : decode prog_7_method_27_code 34 = .ok (.iconst 2, 1) := by decide +kernel
theorem dMO_address_35 : decode prog_7_method_27_code 35 = .ok (.if_icmp .ne (10), 3) := by decide +kernel
theorem dMO_address_38 : decode prog_7_method_27_code 38 = .ok (.aload_n 0, 1) := by decide +kernel
theorem dMO_address_39 : decode prog_7_method_27_code 39 = .ok (.getfield 69, 3) := by decide +kernel
theorem dMO_address_42 : decode prog_7_method_27_code 42 = .ok (.goto (28), 3) := by decide +kernel
theorem dMO_address_45 : decode prog_7_method_27_code 45 = .ok (.iload_n 1, 1) := by decide +kernel
theorem dMO_address_46 : decode prog_7_method_27_code 46 = .ok (.iconst 3, 1) := by decide +kernel
theorem dMO_address_47 : decode prog_7_method_27_code 47 = .ok (.if_icmp .ne (10), 3) := by decide +kernel
theorem dMO_address_50 : decode prog_7_method_27_code 50 = .ok (.aload_n 0, 1) := by decide +kernel
theorem dMO_address_51 : decode prog_7_method_27_code 51 = .ok (.getfield 72, 3) := by decide +kernel
theorem dMO_address_54 : decode prog_7_method_27_code 54 = .ok (.goto (16), 3) := by decide +kernel
theorem dMO_address_57 : decode prog_7_method_27_code 57 = .ok (.iload_n 1, 1) := by decide +kernel
theorem dMO_address_58 : decode prog_7_method_27_code 58 = .ok (.iconst 4, 1) := by decide +kernel
theorem dMO_address_59 : decode prog_7_method_27_code 59 = .ok (.if_icmp .ne (10), 3) := by decide +kernel
theorem dMO_address_62 : decode prog_7_method_27_code 62 = .ok (.aload_n 0, 1) := by decide +kernel
theorem dMO_address_63 : decode prog_7_method_27_code 63 = .ok (.getfield 75, 3) := by decide +kernel
theorem dMO_address_66 : decode prog_7_method_27_code 66 = .ok (.goto (4), 3) := by decide +kernel
theorem dMO_address_69 : decode prog_7_method_27_code 69 = .ok (.iconst (-1), 1) := by decide +kernel
theorem dMO_address_70 : decode prog_7_method_27_code 70 = .ok (.ireturn, 1) := by decide +kernel
theorem dMO_entry_0 : decode prog_7_method_28_code 0 = .ok (.aload_n 0, 1) := by decide +kernel
theorem dMO_entry_1 : decode prog_7_method_28_code 1 = .ok (.getfield 100, 3) := by decide +kernel
theorem dMO_entry_4 : decode prog_7_method_28_code 4 = .ok (.ifCond .ne (19), 3) := by decide +kernel
theorem dMO_entry_7 : decode prog_7_method_28_code 7 = .ok (.iload_n 1, 1) := by decide +kernel
theorem dMO_entry_8 : decode prog_7_method_28_code 8 = .ok (.aload_n 0, 1) := by decide +kernel
theorem dMO_entry_9 : decode prog_7_method_28_code 9 = .ok (.getfield 63, 3) := by decide +kernel
theorem dMO_entry_12 : decode prog_7_method_28_code 12 = .ok (.if_icmp .lt (11), 3) := by decide +kernel
theorem dMO_entry_15 : decode prog_7_method_28_code 15 = .ok (.iload_n 1, 1) := by decide +kernel
theorem dMO_entry_16 : decode prog_7_method_28_code 16 = .ok (.aload_n 0, 1) := by decide +kernel
theorem dMO_entry_17 : decode prog_7_method_28_code 17 = .ok (.getfield 75, 3) := by decide +kernel
theorem dMO_entry_20 : decode prog_7_method_28_code 20 = .ok (.if_icmp .lt (5), 3) := by decide +kernel
theorem dMO_entry_23 : decode prog_7_method_28_code 23 = .ok (.iconst 0, 1) := by decide +kernel
theorem dMO_entry_24 : decode prog_7_method_28_code 24 = .ok (.ireturn, 1) := by decide +kernel
theorem dMO_entry_25 : decode prog_7_method_28_code 25 = .ok (.iload_n 2, 1) := by decide +kernel
theorem dMO_entry_26 : decode prog_7_method_28_code 26 = .ok (.tableswitch 90 0 4 #[34, 41, 61, 68, 75], 34) := by decide +kernel
theorem dMO_entry_60 : decode prog_7_method_28_code 60 = .ok (.aload_n 0, 1) := by decide +kernel
theorem dMO_entry_61 : decode prog_7_method_28_code 61 = .ok (.getfield 7, 3) := by decide +kernel
theorem dMO_entry_64 : decode prog_7_method_28_code 64 = .ok (.iload_n 1, 1) := by decide +kernel
theorem dMO_entry_65 : decode prog_7_method_28_code 65 = .ok (.iaload, 1) := by decide +kernel
theorem dMO_entry_66 : decode prog_7_method_28_code 66 = .ok (.ireturn, 1) := by decide +kernel
theorem dMO_entry_67 : decode prog_7_method_28_code 67 = .ok (.aload_n 0, 1) := by decide +kernel
theorem dMO_entry_68 : decode prog_7_method_28_code 68 = .ok (.getfield 22, 3) := by decide +kernel
theorem dMO_entry_71 : decode prog_7_method_28_code 71 = .ok (.iload_n 1, 1) := by decide +kernel
theorem dMO_entry_72 : decode prog_7_method_28_code 72 = .ok (.baload, 1) := by decide +kernel
theorem dMO_entry_73 : decode prog_7_method_28_code 73 = .ok (.ifCond .eq (7), 3) := by decide +kernel
theorem dMO_entry_76 : decode prog_7_method_28_code 76 = .ok (.iconst 0, 1) := by decide +kernel
theorem dMO_entry_77 : decode prog_7_method_28_code 77 = .ok (.goto (9), 3) := by decide +kernel
theorem dMO_entry_80 : decode prog_7_method_28_code 80 = .ok (.aload_n 0, 1) := by decide +kernel
theorem dMO_entry_81 : decode prog_7_method_28_code 81 = .ok (.getfield 13, 3) := by decide +kernel
theorem dMO_entry_84 : decode prog_7_method_28_code 84 = .ok (.iload_n 1, 1) := by decide +kernel
theorem dMO_entry_85 : decode prog_7_method_28_code 85 = .ok (.iaload, 1) := by decide +kernel
theorem dMO_entry_86 : decode prog_7_method_28_code 86 = .ok (.ireturn, 1) := by decide +kernel
theorem dMO_entry_87 : decode prog_7_method_28_code 87 = .ok (.aload_n 0, 1) := by decide +kernel
theorem dMO_entry_88 : decode prog_7_method_28_code 88 = .ok (.getfield 16, 3) := by decide +kernel
theorem dMO_entry_91 : decode prog_7_method_28_code 91 = .ok (.iload_n 1, 1) := by decide +kernel
theorem dMO_entry_92 : decode prog_7_method_28_code 92 = .ok (.iaload, 1) := by decide +kernel
theorem dMO_entry_93 : decode prog_7_method_28_code 93 = .ok (.ireturn, 1) := by decide +kernel
theorem dMO_entry_94 : decode prog_7_method_28_code 94 = .ok (.aload_n 0, 1) := by decide +kernel
theorem dMO_entry_95 : decode prog_7_method_28_code 95 = .ok (.getfield 19, 3) := by decide +kernel
theorem dMO_entry_98 : decode prog_7_method_28_code 98 = .ok (.iload_n 1, 1) := by decide +kernel
theorem dMO_entry_99 : decode prog_7_method_28_code 99 = .ok (.iaload, 1) := by decide +kernel
theorem dMO_entry_100 : decode prog_7_method_28_code 100 = .ok (.ireturn, 1) := by decide +kernel
theorem dMO_entry_101 : decode prog_7_method_28_code 101 = .ok (.aload_n 0, 1) := by decide +kernel
theorem dMO_entry_102 : decode prog_7_method_28_code 102 = .ok (.getfield 22, 3) := by decide +kernel
theorem dMO_entry_105 : decode prog_7_method_28_code 105 = .ok (.iload_n 1, 1) := by decide +kernel
theorem dMO_entry_106 : decode prog_7_method_28_code 106 = .ok (.baload, 1) := by decide +kernel
theorem dMO_entry_107 : decode prog_7_method_28_code 107 = .ok (.ifCond .eq (7), 3) := by decide +kernel
theorem dMO_entry_110 : decode prog_7_method_28_code 110 = .ok (.iconst 1, 1) := by decide +kernel
theorem dMO_entry_111 : decode prog_7_method_28_code 111 = .ok (.goto (4), 3) := by decide +kernel
theorem dMO_entry_114 : decode prog_7_method_28_code 114 = .ok (.iconst 0, 1) := by decide +kernel
theorem dMO_entry_115 : decode prog_7_method_28_code 115 = .ok (.ireturn, 1) := by decide +kernel
theorem dMO_entry_116 : decode prog_7_method_28_code 116 = .ok (.iconst 0, 1) := by decide +kernel
theorem dMO_entry_117 : decode prog_7_method_28_code 117 = .ok (.ireturn, 1) := by decide +kernel
theorem dMO_bucket_0 : decode prog_7_method_29_code 0 = .ok (.aload_n 0, 1) := by decide +kernel
theorem dMO_bucket_1 : decode prog_7_method_29_code 1 = .ok (.getfield 100, 3) := by decide +kernel
theorem dMO_bucket_4 : decode prog_7_method_29_code 4 = .ok (.ifCond .eq (6), 3) := by decide +kernel
theorem dMO_bucket_7 : decode prog_7_method_29_code 7 = .ok (.bipush (-9), 2) := by decide +kernel
theorem dMO_bucket_9 : decode prog_7_method_29_code 9 = .ok (.ireturn, 1) := by decide +kernel
theorem dMO_bucket_10 : decode prog_7_method_29_code 10 = .ok (.iload_n 1, 1) := by decide +kernel
theorem dMO_bucket_11 : decode prog_7_method_29_code 11 = .ok (.ifCond .lt (11), 3) := by decide +kernel
theorem dMO_bucket_14 : decode prog_7_method_29_code 14 = .ok (.iload_n 1, 1) := by decide +kernel
theorem dMO_bucket_15 : decode prog_7_method_29_code 15 = .ok (.aload_n 0, 1) := by decide +kernel
theorem dMO_bucket_16 : decode prog_7_method_29_code 16 = .ok (.invokevirtual 145, 3) := by decide +kernel
theorem dMO_bucket_19 : decode prog_7_method_29_code 19 = .ok (.if_icmp .lt (7), 3) := by decide +kernel
theorem dMO_bucket_22 : decode prog_7_method_29_code 22 = .ok (.iconst (-1), 1) := by decide +kernel
theorem dMO_bucket_23 : decode prog_7_method_29_code 23 = .ok (.goto (9), 3) := by decide +kernel
theorem dMO_bucket_26 : decode prog_7_method_29_code 26 = .ok (.aload_n 0, 1) := by decide +kernel
theorem dMO_bucket_27 : decode prog_7_method_29_code 27 = .ok (.getfield 26, 3) := by decide +kernel
theorem dMO_bucket_30 : decode prog_7_method_29_code 30 = .ok (.iload_n 1, 1) := by decide +kernel
theorem dMO_bucket_31 : decode prog_7_method_29_code 31 = .ok (.iaload, 1) := by decide +kernel
theorem dMO_bucket_32 : decode prog_7_method_29_code 32 = .ok (.ireturn, 1) := by decide +kernel
theorem dMO_living_0 : decode prog_7_method_30_code 0 = .ok (.iconst 0, 1) := by decide +kernel
theorem dMO_living_1 : decode prog_7_method_30_code 1 = .ok (.istore_n 1, 1) := by decide +kernel
theorem dMO_living_2 : decode prog_7_method_30_code 2 = .ok (.iconst 0, 1) := by decide +kernel
theorem dMO_living_3 : decode prog_7_method_30_code 3 = .ok (.istore_n 2, 1) := by decide +kernel
theorem dMO_living_4 : decode prog_7_method_30_code 4 = .ok (.iload_n 2, 1) := by decide +kernel
theorem dMO_living_5 : decode prog_7_method_30_code 5 = .ok (.bipush 32, 2) := by decide +kernel
theorem dMO_living_7 : decode prog_7_method_30_code 7 = .ok (.if_icmp .ge (37), 3) := by decide +kernel
theorem dMO_living_10 : decode prog_7_method_30_code 10 = .ok (.aload_n 0, 1) := by decide +kernel
theorem dMO_living_11 : decode prog_7_method_30_code 11 = .ok (.iload_n 2, 1) := by decide +kernel
theorem dMO_living_12 : decode prog_7_method_30_code 12 = .ok (.iconst 0, 1) := by decide +kernel
theorem dMO_living_13 : decode prog_7_method_30_code 13 = .ok (.invokevirtual 125, 3) := by decide +kernel
