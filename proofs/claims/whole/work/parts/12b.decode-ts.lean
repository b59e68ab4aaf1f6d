theorem dTS_compact_0 : decode prog_1_method_10_code 0 = .ok (.aload_n 0, 1) := by decide +kernel
theorem dTS_compact_1 : decode prog_1_method_10_code 1 = .ok (.getfield 12, 3) := by decide +kernel
theorem dTS_compact_4 : decode prog_1_method_10_code 4 = .ok (.getfield 62, 3) := by decide +kernel
theorem dTS_compact_7 : decode prog_1_method_10_code 7 = .ok (.ifCond .eq (6), 3) := by decide +kernel
theorem dTS_compact_10 : decode prog_1_method_10_code 10 = .ok (.bipush (-9), 2) := by decide +kernel
theorem dTS_compact_12 : decode prog_1_method_10_code 12 = .ok (.ireturn, 1) := by decide +kernel
theorem dTS_compact_13 : decode prog_1_method_10_code 13 = .ok (.aload_n 0, 1) := by decide +kernel
theorem dTS_compact_14 : decode prog_1_method_10_code 14 = .ok (.getfield 95, 3) := by decide +kernel
theorem dTS_compact_17 : decode prog_1_method_10_code 17 = .ok (.invokestatic 137, 3) := by decide +kernel
theorem dTS_compact_20 : decode prog_1_method_10_code 20 = .ok (.istore_n 1, 1) := by decide +kernel
theorem dTS_compact_21 : decode prog_1_method_10_code 21 = .ok (.iload_n 1, 1) := by decide +kernel
theorem dTS_compact_22 : decode prog_1_method_10_code 22 = .ok (.aload_n 0, 1) := by decide +kernel
theorem dTS_compact_23 : decode prog_1_method_10_code 23 = .ok (.getfield 91, 3) := by decide +kernel
theorem dTS_compact_26 : decode prog_1_method_10_code 26 = .ok (.if_icmp .le (6), 3) := by decide +kernel
theorem dTS_compact_29 : decode prog_1_method_10_code 29 = .ok (.bipush (-3), 2) := by decide +kernel
theorem dTS_compact_31 : decode prog_1_method_10_code 31 = .ok (.ireturn, 1) := by decide +kernel
theorem dTS_compact_32 : decode prog_1_method_10_code 32 = .ok (.aload_n 0, 1) := by decide +kernel
theorem dTS_compact_33 : decode prog_1_method_10_code 33 = .ok (.getfield 99, 3) := by decide +kernel
theorem dTS_compact_36 : decode prog_1_method_10_code 36 = .ok (.sipush 396, 3) := by decide +kernel
theorem dTS_compact_39 : decode prog_1_method_10_code 39 = .ok (.if_icmp .le (6), 3) := by decide +kernel
theorem dTS_compact_42 : decode prog_1_method_10_code 42 = .ok (.bipush (-2), 2) := by decide +kernel
theorem dTS_compact_44 : decode prog_1_method_10_code 44 = .ok (.ireturn, 1) := by decide +kernel
theorem dTS_compact_45 : decode prog_1_method_10_code 45 = .ok (.iconst 0, 1) := by decide +kernel
theorem dTS_compact_46 : decode prog_1_method_10_code 46 = .ok (.istore_n 2, 1) := by decide +kernel
theorem dTS_compact_47 : decode prog_1_method_10_code 47 = .ok (.aload_n 0, 1) := by decide +kernel
theorem dTS_compact_48 : decode prog_1_method_10_code 48 = .ok (.getfield 95, 3) := by decide +kernel
theorem dTS_compact_51 : decode prog_1_method_10_code 51 = .ok (.istore_n 3, 1) := by decide +kernel
theorem dTS_compact_52 : decode prog_1_method_10_code 52 = .ok (.iload_n 3, 1) := by decide +kernel
theorem dTS_compact_53 : decode prog_1_method_10_code 53 = .ok (.iload_n 1, 1) := by decide +kernel
theorem dTS_compact_54 : decode prog_1_method_10_code 54 = .ok (.if_icmp .ge (62), 3) := by decide +kernel
theorem dTS_compact_57 : decode prog_1_method_10_code 57 = .ok (.aload_n 0, 1) := by decide +kernel
theorem dTS_compact_58 : decode prog_1_method_10_code 58 = .ok (.getfield 12, 3) := by decide +kernel
theorem dTS_compact_61 : decode prog_1_method_10_code 61 = .ok (.dup, 1) := by decide +kernel
theorem dTS_compact_62 : decode prog_1_method_10_code 62 = .ok (.getfield 141, 3) := by decide +kernel
theorem dTS_compact_65 : decode prog_1_method_10_code 65 = .ok (.iconst 1, 1) := by decide +kernel
theorem dTS_compact_66 : decode prog_1_method_10_code 66 = .ok (.iadd, 1) := by decide +kernel
theorem dTS_compact_67 : decode prog_1_method_10_code 67 = .ok (.putfield 141, 3) := by decide +kernel
theorem dTS_compact_70 : decode prog_1_method_10_code 70 = .ok (.aload_n 0, 1) := by decide +kernel
theorem dTS_compact_71 : decode prog_1_method_10_code 71 = .ok (.iload_n 3, 1) := by decide +kernel
theorem dTS_compact_72 : decode prog_1_method_10_code 72 = .ok (.invokevirtual 144, 3) := by decide +kernel
theorem dTS_compact_75 : decode prog_1_method_10_code 75 = .ok (.ifCond .eq (35), 3) := by decide +kernel
theorem dTS_compact_78 : decode prog_1_method_10_code 78 = .ok (.aload_n 0, 1) := by decide +kernel
theorem dTS_compact_79 : decode prog_1_method_10_code 79 = .ok (.aload_n 0, 1) := by decide +kernel
theorem dTS_compact_80 : decode prog_1_method_10_code 80 = .ok (.getfield 26, 3) := by decide +kernel
theorem dTS_compact_83 : decode prog_1_method_10_code 83 = .ok (.getfield 147, 3) := by decide +kernel
theorem dTS_compact_86 : decode prog_1_method_10_code 86 = .ok (.iload_n 3, 1) := by decide +kernel
theorem dTS_compact_87 : decode prog_1_method_10_code 87 = .ok (.iaload, 1) := by decide +kernel
theorem dTS_compact_88 : decode prog_1_method_10_code 88 = .ok (.aload_n 0, 1) := by decide +kernel
theorem dTS_compact_89 : decode prog_1_method_10_code 89 = .ok (.getfield 26, 3) := by decide +kernel
theorem dTS_compact_92 : decode prog_1_method_10_code 92 = .ok (.getfield 81, 3) := by decide +kernel
theorem dTS_compact_95 : decode prog_1_method_10_code 95 = .ok (.iload_n 3, 1) := by decide +kernel
theorem dTS_compact_96 : decode prog_1_method_10_code 96 = .ok (.iaload, 1) := by decide +kernel
theorem dTS_compact_97 : decode prog_1_method_10_code 97 = .ok (.iconst 0, 1) := by decide +kernel
theorem dTS_compact_98 : decode prog_1_method_10_code 98 = .ok (.invokevirtual 150, 3) := by decide +kernel
theorem dTS_compact_101 : decode prog_1_method_10_code 101 = .ok (.ifCond .ne (6), 3) := by decide +kernel
theorem dTS_compact_104 : decode prog_1_method_10_code 104 = .ok (.bipush (-9), 2) := by decide +kernel
theorem dTS_compact_106 : decode prog_1_method_10_code 106 = .ok (.ireturn, 1) := by decide +kernel
theorem dTS_compact_107 : decode prog_1_method_10_code 107 = .ok (.iinc 2 1, 3) := by decide +kernel
theorem dTS_compact_110 : decode prog_1_method_10_code 110 = .ok (.iinc 3 1, 3) := by decide +kernel
theorem dTS_compact_113 : decode prog_1_method_10_code 113 = .ok (.goto (-61), 3) := by decide +kernel
theorem dTS_compact_116 : decode prog_1_method_10_code 116 = .ok (.aload_n 0, 1) := by decide +kernel
theorem dTS_compact_117 : decode prog_1_method_10_code 117 = .ok (.iload_n 1, 1) := by decide +kernel
theorem dTS_compact_118 : decode prog_1_method_10_code 118 = .ok (.putfield 95, 3) := by decide +kernel
theorem dTS_compact_121 : decode prog_1_method_10_code 121 = .ok (.iload_n 2, 1) := by decide +kernel
theorem dTS_compact_122 : decode prog_1_method_10_code 122 = .ok (.ireturn, 1) := by decide +kernel
theorem dTS_fuse_0 : decode prog_1_method_11_code 0 = .ok (.aload_n 0, 1) := by decide +kernel
theorem dTS_fuse_1 : decode prog_1_method_11_code 1 = .ok (.getfield 12, 3) := by decide +kernel
theorem dTS_fuse_4 : decode prog_1_method_11_code 4 = .ok (.getfield 62, 3) := by decide +kernel
theorem dTS_fuse_7 : decode prog_1_method_11_code 7 = .ok (.ifCond .ne (14), 3) := by decide +kernel
theorem dTS_fuse_10 : decode prog_1_method_11_code 10 = .ok (.iload_n 1, 1) := by decide +kernel
theorem dTS_fuse_11 : decode prog_1_method_11_code 11 = .ok (.iconst 1, 1) := by decide +kernel
theorem dTS_fuse_12 : decode prog_1_method_11_code 12 = .ok (.if_icmp .lt (9), 3) := by decide +kernel
theorem dTS_fuse_15 : decode prog_1_method_11_code 15 = .ok (.iload_n 1, 1) := by decide +kernel
theorem dTS_fuse_16 : decode prog_1_method_11_code 16 = .ok (.bipush 50, 2) := by decide +kernel
theorem dTS_fuse_18 : decode prog_1_method_11_code 18 = .ok (.if_icmp .le (5), 3) := by decide +kernel
theorem dTS_fuse_21 : decode prog_1_method_11_code 21 = .ok (.iconst 0, 1) := by decide +kernel
theorem dTS_fuse_22 : decode prog_1_method_11_code 22 = .ok (.ireturn, 1) := by decide +kernel
theorem dTS_fuse_23 : decode prog_1_method_11_code 23 = .ok (.aload_n 0, 1) := by decide +kernel
theorem dTS_fuse_24 : decode prog_1_method_11_code 24 = .ok (.getfield 12, 3) := by decide +kernel
theorem dTS_fuse_27 : decode prog_1_method_11_code 27 = .ok (.iload_n 1, 1) := by decide +kernel
theorem dTS_fuse_28 : decode prog_1_method_11_code 28 = .ok (.putfield 154, 3) := by decide +kernel
theorem dTS_fuse_31 : decode prog_1_method_11_code 31 = .ok (.iconst 1, 1) := by decide +kernel
theorem dTS_fuse_32 : decode prog_1_method_11_code 32 = .ok (.ireturn, 1) := by decide +kernel
theorem dTS_recover_0 : decode prog_1_method_12_code 0 = .ok (.aload_n 0, 1) := by decide +kernel
theorem dTS_recover_1 : decode prog_1_method_12_code 1 = .ok (.getfield 12, 3) := by decide +kernel
theorem dTS_recover_4 : decode prog_1_method_12_code 4 = .ok (.getfield 62, 3) := by decide +kernel
theorem dTS_recover_7 : decode prog_1_method_12_code 7 = .ok (.ifCond .ne (6), 3) := by decide +kernel
theorem dTS_recover_10 : decode prog_1_method_12_code 10 = .ok (.bipush (-3), 2) := by decide +kernel
theorem dTS_recover_12 : decode prog_1_method_12_code 12 = .ok (.ireturn, 1) := by decide +kernel
theorem dTS_recover_13 : decode prog_1_method_12_code 13 = .ok (.aload_n 0, 1) := by decide +kernel
theorem dTS_recover_14 : decode prog_1_method_12_code 14 = .ok (.getfield 12, 3) := by decide +kernel
theorem dTS_recover_17 : decode prog_1_method_12_code 17 = .ok (.iconst 0, 1) := by decide +kernel
theorem dTS_recover_18 : decode prog_1_method_12_code 18 = .ok (.putfield 62, 3) := by decide +kernel
theorem dTS_recover_21 : decode prog_1_method_12_code 21 = .ok (.aload_n 0, 1) := by decide +kernel
theorem dTS_recover_22 : decode prog_1_method_12_code 22 = .ok (.iconst 0, 1) := by decide +kernel
theorem dTS_recover_23 : decode prog_1_method_12_code 23 = .ok (.putfield 44, 3) := by decide +kernel
theorem dTS_recover_26 : decode prog_1_method_12_code 26 = .ok (.aload_n 0, 1) := by decide +kernel
theorem dTS_recover_27 : decode prog_1_method_12_code 27 = .ok (.aload_n 0, 1) := by decide +kernel
theorem dTS_recover_28 : decode prog_1_method_12_code 28 = .ok (.getfield 37, 3) := by decide +kernel
theorem dTS_recover_31 : decode prog_1_method_12_code 31 = .ok (.getfield 98, 3) := by decide +kernel
theorem dTS_recover_34 : decode prog_1_method_12_code 34 = .ok (.putfield 95, 3) := by decide +kernel
theorem dTS_recover_37 : decode prog_1_method_12_code 37 = .ok (.aload_n 0, 1) := by decide +kernel
theorem dTS_recover_38 : decode prog_1_method_12_code 38 = .ok (.aload_n 0, 1) := by decide +kernel
theorem dTS_recover_39 : decode prog_1_method_12_code 39 = .ok (.getfield 37, 3) := by decide +kernel
theorem dTS_recover_42 : decode prog_1_method_12_code 42 = .ok (.getfield 157, 3) := by decide +kernel
theorem dTS_recover_45 : decode prog_1_method_12_code 45 = .ok (.putfield 91, 3) := by decide +kernel
theorem dTS_recover_48 : decode prog_1_method_12_code 48 = .ok (.aload_n 0, 1) := by decide +kernel
theorem dTS_recover_49 : decode prog_1_method_12_code 49 = .ok (.aload_n 0, 1) := by decide +kernel
theorem dTS_recover_50 : decode prog_1_method_12_code 50 = .ok (.getfield 37, 3) := by decide +kernel
theorem dTS_recover_53 : decode prog_1_method_12_code 53 = .ok (.getfield 157, 3) := by decide +kernel
theorem dTS_recover_56 : decode prog_1_method_12_code 56 = .ok (.putfield 160, 3) := by decide +kernel
theorem dTS_recover_59 : decode prog_1_method_12_code 59 = .ok (.aload_n 0, 1) := by decide +kernel
theorem dTS_recover_60 : decode prog_1_method_12_code 60 = .ok (.aload_n 0, 1) := by decide +kernel
theorem dTS_recover_61 : decode prog_1_method_12_code 61 = .ok (.getfield 37, 3) := by decide +kernel
theorem dTS_recover_64 : decode prog_1_method_12_code 64 = .ok (.getfield 157, 3) := by decide +kernel
theorem dTS_recover_67 : decode prog_1_method_12_code 67 = .ok (.putfield 88, 3) := by decide +kernel
theorem dTS_recover_70 : decode prog_1_method_12_code 70 = .ok (.aload_n 0, 1) := by decide +kernel
theorem dTS_recover_71 : decode prog_1_method_12_code 71 = .ok (.aload_n 0, 1) := by decide +kernel
theorem dTS_recover_72 : decode prog_1_method_12_code 72 = .ok (.getfield 37, 3) := by decide +kernel
theorem dTS_recover_75 : decode prog_1_method_12_code 75 = .ok (.getfield 157, 3) := by decide +kernel
theorem dTS_recover_78 : decode prog_1_method_12_code 78 = .ok (.putfield 99, 3) := by decide +kernel
theorem dTS_recover_81 : decode prog_1_method_12_code 81 = .ok (.aload_n 0, 1) := by decide +kernel
theorem dTS_recover_82 : decode prog_1_method_12_code 82 = .ok (.invokevirtual 163, 3) := by decide +kernel
theorem dTS_recover_85 : decode prog_1_method_12_code 85 = .ok (.aload_n 0, 1) := by decide +kernel
theorem dTS_recover_86 : decode prog_1_method_12_code 86 = .ok (.aload_n 0, 1) := by decide +kernel
theorem dTS_recover_87 : decode prog_1_method_12_code 87 = .ok (.getfield 37, 3) := by decide +kernel
theorem dTS_recover_90 : decode prog_1_method_12_code 90 = .ok (.getfield 94, 3) := by decide +kernel
theorem dTS_recover_93 : decode prog_1_method_12_code 93 = .ok (.ifCond .ne (7), 3) := by decide +kernel
theorem dTS_recover_96 : decode prog_1_method_12_code 96 = .ok (.iconst 1, 1) := by decide +kernel
theorem dTS_recover_97 : decode prog_1_method_12_code 97 = .ok (.goto (12), 3) := by decide +kernel
theorem dTS_recover_100 : decode prog_1_method_12_code 100 = .ok (.aload_n 0, 1) := by decide +kernel
theorem dTS_recover_101 : decode prog_1_method_12_code 101 = .ok (.getfield 37, 3) := by decide +kernel
theorem dTS_recover_104 : decode prog_1_method_12_code 104 = .ok (.getfield 94, 3) := by decide +kernel
theorem dTS_recover_107 : decode prog_1_method_12_code 107 = .ok (.iconst 2, 1) := by decide +kernel
theorem dTS_recover_108 : decode prog_1_method_12_code 108 = .ok (.iadd, 1) := by decide +kernel
theorem dTS_recover_109 : decode prog_1_method_12_code 109 = .ok (.putfield 30, 3) := by decide +kernel
theorem dTS_recover_112 : decode prog_1_method_12_code 112 = .ok (.aload_n 0, 1) := by decide +kernel
theorem dTS_recover_113 : decode prog_1_method_12_code 113 = .ok (.getfield 37, 3) := by decide +kernel
theorem dTS_recover_116 : decode prog_1_method_12_code 116 = .ok (.getfield 94, 3) := by decide +kernel
theorem dTS_recover_119 : decode prog_1_method_12_code 119 = .ok (.ireturn, 1) := by decide +kernel
theorem dTS_address_0 : decode prog_1_method_13_code 0 = .ok (.aload_n 0, 1) := by decide +kernel
theorem dTS_address_1 : decode prog_1_method_13_code 1 = .ok (.getfield 12, 3) := by decide +kernel
theorem dTS_address_4 : decode prog_1_method_13_code 4 = .ok (.getfield 62, 3) := by decide +kernel
theorem dTS_address_7 : decode prog_1_method_13_code 7 = .ok (.ifCond .eq (6), 3) := by decide +kernel
theorem dTS_address_10 : decode prog_1_method_13_code 10 = .ok (.bipush (-9), 2) := by decide +kernel
theorem dTS_address_12 : decode prog_1_method_13_code 12 = .ok (.ireturn, 1) := by decide +kernel
theorem dTS_address_13 : decode prog_1_method_13_code 13 = .ok (.iload_n 1, 1) := by decide +kernel
theorem dTS_address_14 : decode prog_1_method_13_code 14 = .ok (.tableswitch 59 0 4 #[34, 39, 44, 49, 54], 34) := by decide +kernel
theorem dTS_address_48 : decode prog_1_method_13_code 48 = .ok (.aload_n 0, 1) := by decide +kernel
theorem dTS_address_49 : decode prog_1_method_13_code 49 = .ok (.getfield 95, 3) := by decide +kernel
theorem dTS_address_52 : decode prog_1_method_13_code 52 = .ok (.ireturn, 1) := by decide +kernel
theorem dTS_address_53 : decode prog_1_method_13_code 53 = .ok (.aload_n 0, 1) := by decide +kernel
theorem dTS_address_54 : decode prog_1_method_13_code 54 = .ok (.getfield 91, 3) := by decide +kernel
theorem dTS_address_57 : decode prog_1_method_13_code 57 = .ok (.ireturn, 1) := by decide +kernel
theorem dTS_address_58 : decode prog_1_method_13_code 58 = .ok (.aload_n 0, 1) := by decide +kernel
theorem dTS_address_59 : decode prog_1_method_13_code 59 = .ok (.getfield 160, 3) := by decide +kernel
theorem dTS_address_62 : decode prog_1_method_13_code 62 = .ok (.ireturn, 1) := by decide +kernel
theorem dTS_address_63 : decode prog_1_method_13_code 63 = .ok (.aload_n 0, 1) := by decide +kernel
theorem dTS_address_64 : decode prog_1_method_13_code 64 = .ok (.getfield 88, 3) := by decide +kernel
theorem dTS_address_67 : decode prog_1_method_13_code 67 = .ok (.ireturn, 1) := by decide +kernel
theorem dTS_address_68 : decode prog_1_method_13_code 68 = .ok (.aload_n 0, 1) := by decide +kernel
theorem dTS_address_69 : decode prog_1_method_13_code 69 = .ok (.getfield 99, 3) := by decide +kernel
theorem dTS_address_72 : decode prog_1_method_13_code 72 = .ok (.ireturn, 1) := by decide +kernel
theorem dTS_address_73 : decode prog_1_method_13_code 73 = .ok (.iconst (-1), 1) := by decide +kernel
theorem dTS_address_74 : decode prog_1_method_13_code 74 = .ok (.ireturn, 1) := by decide +kernel
theorem dTS_entry_0 : decode prog_1_method_14_code 0 = .ok (.aload_n 0, 1) := by decide +kernel
theorem dTS_entry_1 : decode prog_1_method_14_code 1 = .ok (.getfield 12, 3) := by decide +kernel
theorem dTS_entry_4 : decode prog_1_method_14_code 4 = .ok (.getfield 62, 3) := by decide +kernel
theorem dTS_entry_7 : decode prog_1_method_14_code 7 = .ok (.ifCond .ne (19), 3) := by decide +kernel
theorem dTS_entry_10 : decode prog_1_method_14_code 10 = .ok (.iload_n 1, 1) := by decide +kernel
theorem dTS_entry_11 : decode prog_1_method_14_code 11 = .ok (.aload_n 0, 1) := by decide +kernel
theorem dTS_entry_12 : decode prog_1_method_14_code 12 = .ok (.getfield 95, 3) := by decide +kernel
theorem dTS_entry_15 : decode prog_1_method_14_code 15 = .ok (.if_icmp .lt (11), 3) := by decide +kernel
theorem dTS_entry_18 : decode prog_1_method_14_code 18 = .ok (.iload_n 1, 1) := by decide +kernel
theorem dTS_entry_19 : decode prog_1_method_14_code 19 = .ok (.aload_n 0, 1) := by decide +kernel
theorem dTS_entry_20 : decode prog_1_method_14_code 20 = .ok (.getfield 99, 3) := by decide +kernel
theorem dTS_entry_23 : decode prog_1_method_14_code 23 = .ok (.if_icmp .lt (5), 3) := by decide +kernel
theorem dTS_entry_26 : decode prog_1_method_14_code 26 = .ok (.iconst 0, 1) := by decide +kernel
theorem dTS_entry_27 : decode prog_1_method_14_code 27 = .ok (.ireturn, 1) := by decide +kernel
theorem dTS_entry_28 : decode prog_1_method_14_code 28 = .ok (.iload_n 2, 1) := by decide +kernel
theorem dTS_entry_29 : decode prog_1_method_14_code 29 = .ok (.tableswitch 93 0 4 #[35, 45, 55, 65, 75], 35) := by decide +kernel
theorem dTS_entry_64 : decode prog_1_method_14_code 64 = .ok (.aload_n 0, 1) := by decide +kernel
theorem dTS_entry_65 : decode prog_1_method_14_code 65 = .ok (.getfield 26, 3) := by decide +kernel
theorem dTS_entry_68 : decode prog_1_method_14_code 68 = .ok (.getfield 147, 3) := by decide +kernel
theorem dTS_entry_71 : decode prog_1_method_14_code 71 = .ok (.iload_n 1, 1) := by decide +kernel
theorem dTS_entry_72 : decode prog_1_method_14_code 72 = .ok (.iaload, 1) := by decide +kernel
theorem dTS_entry_73 : decode prog_1_method_14_code 73 = .ok (.ireturn, 1) := by decide +kernel
theorem dTS_entry_74 : decode prog_1_method_14_code 74 = .ok (.aload_n 0, 1) := by decide +kernel
theorem dTS_entry_75 : decode prog_1_method_14_code 75 = .ok (.getfield 26, 3) := by decide +kernel
theorem dTS_entry_78 : decode prog_1_method_14_code 78 = .ok (.getfield 81, 3) := by decide +kernel
theorem dTS_entry_81 : decode prog_1_method_14_code 81 = .ok (.iload_n 1, 1) := by decide +kernel
theorem dTS_entry_82 : decode prog_1_method_14_code 82 = .ok (.iaload, 1) := by decide +kernel
theorem dTS_entry_83 : decode prog_1_method_14_code 83 = .ok (.ireturn, 1) := by decide +kernel
theorem dTS_entry_84 : decode prog_1_method_14_code 84 = .ok (.aload_n 0, 1) := by decide +kernel
theorem dTS_entry_85 : decode prog_1_method_14_code 85 = .ok (.getfield 26, 3) := by decide +kernel
theorem dTS_entry_88 : decode prog_1_method_14_code 88 = .ok (.getfield 166, 3) := by decide +kernel
theorem dTS_entry_91 : decode prog_1_method_14_code 91 = .ok (.iload_n 1, 1) := by decide +kernel
theorem dTS_entry_92 : decode prog_1_method_14_code 92 = .ok (.iaload, 1) := by decide +kernel
theorem dTS_entry_93 : decode prog_1_method_14_code 93 = .ok (.ireturn, 1) := by decide +kernel
theorem dTS_entry_94 : decode prog_1_method_14_code 94 = .ok (.aload_n 0, 1) := by decide +kernel
theorem dTS_entry_95 : decode prog_1_method_14_code 95 = .ok (.getfield 26, 3) := by decide +kernel
theorem dTS_entry_98 : decode prog_1_method_14_code 98 = .ok (.getfield 169, 3) := by decide +kernel
theorem dTS_entry_101 : decode prog_1_method_14_code 101 = .ok (.iload_n 1, 1) := by decide +kernel
theorem dTS_entry_102 : decode prog_1_method_14_code 102 = .ok (.iaload, 1) := by decide +kernel
theorem dTS_entry_103 : decode prog_1_method_14_code 103 = .ok (.ireturn, 1) := by decide +kernel
theorem dTS_entry_104 : decode prog_1_method_14_code 104 = .ok (.aload_n 0, 1) := by decide +kernel
theorem dTS_entry_105 : decode prog_1_method_14_code 105 = .ok (.getfield 26, 3) := by decide +kernel
theorem dTS_entry_108 : decode prog_1_method_14_code 108 = .ok (.getfield 172, 3) := by decide +kernel
theorem dTS_entry_111 : decode prog_1_method_14_code 111 = .ok (.iload_n 1, 1) := by decide +kernel
theorem dTS_entry_112 : decode prog_1_method_14_code 112 = .ok (.baload, 1) := by decide +kernel
theorem dTS_entry_113 : decode prog_1_method_14_code 113 = .ok (.ifCond .eq (7), 3) := by decide +kernel
theorem dTS_entry_116 : decode prog_1_method_14_code 116 = .ok (.iconst 1, 1) := by decide +kernel
theorem dTS_entry_117 : decode prog_1_method_14_code 117 = .ok (.goto (4), 3) := by decide +kernel
theorem dTS_entry_120 : decode prog_1_method_14_code 120 = .ok (.iconst 0, 1) := by decide +kernel
theorem dTS_entry_121 : decode prog_1_method_14_code 121 = .ok (.ireturn, 1) := by decide +kernel
theorem dTS_entry_122 : decode prog_1_method_14_code 122 = .ok (.iconst 0, 1) := by decide +kernel
theorem dTS_entry_123 : decode prog_1_method_14_code 123 = .ok (.ireturn, 1) := by decide +kernel
theorem dTS_bucket_0 : decode prog_1_method_15_code 0 = .ok (.aload_n 0, 1) := by decide +kernel
theorem dTS_bucket_1 : decode prog_1_method_15_code 1 = .ok (.getfield 12, 3) := by decide +kernel
theorem dTS_bucket_4 : decode prog_1_method_15_code 4 = .ok (.getfield 62, 3) := by decide +kernel
theorem dTS_bucket_7 : decode prog_1_method_15_code 7 = .ok (.ifCond .eq (6), 3) := by decide +kernel
theorem dTS_bucket_10 : decode prog_1_method_15_code 10 = .ok (.bipush (-9), 2) := by decide +kernel
theorem dTS_bucket_12 : decode prog_1_method_15_code 12 = .ok (.ireturn, 1) := by decide +kernel
theorem dTS_bucket_13 : decode prog_1_method_15_code 13 = .ok (.iload_n 1, 1) := by decide +kernel
theorem dTS_bucket_14 : decode prog_1_method_15_code 14 = .ok (.ifCond .lt (14), 3) := by decide +kernel
theorem dTS_bucket_17 : decode prog_1_method_15_code 17 = .ok (.iload_n 1, 1) := by decide +kernel
theorem dTS_bucket_18 : decode prog_1_method_15_code 18 = .ok (.aload_n 0, 1) := by decide +kernel
theorem dTS_bucket_19 : decode prog_1_method_15_code 19 = .ok (.getfield 19, 3) := by decide +kernel
theorem dTS_bucket_22 : decode prog_1_method_15_code 22 = .ok (.invokevirtual 130, 3) := by decide +kernel
theorem dTS_bucket_25 : decode prog_1_method_15_code 25 = .ok (.if_icmp .lt (5), 3) := by decide +kernel
theorem dTS_bucket_28 : decode prog_1_method_15_code 28 = .ok (.iconst (-1), 1) := by decide +kernel
theorem dTS_bucket_29 : decode prog_1_method_15_code 29 = .ok (.ireturn, 1) := by decide +kernel
theorem dTS_bucket_30 : decode prog_1_method_15_code 30 = .ok (.aload_n 0, 1) := by decide +kernel
theorem dTS_bucket_31 : decode prog_1_method_15_code 31 = .ok (.getfield 19, 3) := by decide +kernel
theorem dTS_bucket_34 : decode prog_1_method_15_code 34 = .ok (.getfield 176, 3) := by decide +kernel
theorem dTS_bucket_37 : decode prog_1_method_15_code 37 = .ok (.iload_n 1, 1) := by decide +kernel
theorem dTS_bucket_38 : decode prog_1_method_15_code 38 = .ok (.iaload, 1) := by decide +kernel
theorem dTS_bucket_39 : decode prog_1_method_15_code 39 = .ok (.ireturn, 1) := by decide +kernel
theorem dTS_size_0 : decode prog_1_method_16_code 0 = .ok (.aload_n 0, 1) := by decide +kernel
theorem dTS_size_1 : decode prog_1_method_16_code 1 = .ok (.getfield 12, 3) := by decide +kernel
theorem dTS_size_4 : decode prog_1_method_16_code 4 = .ok (.getfield 62, 3) := by decide +kernel
theorem dTS_size_7 : decode prog_1_method_16_code 7 = .ok (.ifCond .ne (7), 3) := by decide +kernel
theorem dTS_size_10 : decode prog_1_method_16_code 10 = .ok (.iconst 1, 1) := by decide +kernel
theorem dTS_size_11 : decode prog_1_method_16_code 11 = .ok (.goto (4), 3) := by decide +kernel
theorem dTS_size_14 : decode prog_1_method_16_code 14 = .ok (.iconst 0, 1) := by decide +kernel
theorem dTS_size_15 : decode prog_1_method_16_code 15 = .ok (.istore_n 2, 1) := by decide +kernel
theorem dTS_size_16 : decode prog_1_method_16_code 16 = .ok (.iload_n 1, 1) := by decide +kernel
theorem dTS_size_17 : decode prog_1_method_16_code 17 = .ok (.tableswitch 124 0 6 #[43, 59, 72, 80, 88, 101, 111], 43) := by decide +kernel
theorem dTS_size_60 : decode prog_1_method_16_code 60 = .ok (.iload_n 2, 1) := by decide +kernel
theorem dTS_size_61 : decode prog_1_method_16_code 61 = .ok (.ifCond .eq (13), 3) := by decide +kernel
theorem dTS_size_64 : decode prog_1_method_16_code 64 = .ok (.aload_n 0, 1) := by decide +kernel
theorem dTS_size_65 : decode prog_1_method_16_code 65 = .ok (.getfield 19, 3) := by decide +kernel
theorem dTS_size_68 : decode prog_1_method_16_code 68 = .ok (.invokevirtual 130, 3) := by decide +kernel
theorem dTS_size_71 : decode prog_1_method_16_code 71 = .ok (.goto (4), 3) := by decide +kernel
theorem dTS_size_74 : decode prog_1_method_16_code 74 = .ok (.iconst 0, 1) := by decide +kernel
theorem dTS_size_75 : decode prog_1_method_16_code 75 = .ok (.ireturn, 1) := by decide +kernel
theorem dTS_size_76 : decode prog_1_method_16_code 76 = .ok (.iload_n 2, 1) := by decide +kernel
theorem dTS_size_77 : decode prog_1_method_16_code 77 = .ok (.ifCond .eq (10), 3) := by decide +kernel
theorem dTS_size_80 : decode prog_1_method_16_code 80 = .ok (.aload_n 0, 1) := by decide +kernel
theorem dTS_size_81 : decode prog_1_method_16_code 81 = .ok (.getfield 30, 3) := by decide +kernel
theorem dTS_size_84 : decode prog_1_method_16_code 84 = .ok (.goto (4), 3) := by decide +kernel
theorem dTS_size_87 : decode prog_1_method_16_code 87 = .ok (.iconst 0, 1) := by decide +kernel
theorem dTS_size_88 : decode prog_1_method_16_code 88 = .ok (.ireturn, 1) := by decide +kernel
theorem dTS_size_89 : decode prog_1_method_16_code 89 = .ok (.aload_n 0, 1) := by decide +kernel
theorem dTS_size_90 : decode prog_1_method_16_code 90 = .ok (.getfield 12, 3) := by decide +kernel
theorem dTS_size_93 : decode prog_1_method_16_code 93 = .ok (.getfield 179, 3) := by decide +kernel
theorem dTS_size_96 : decode prog_1_method_16_code 96 = .ok (.ireturn, 1) := by decide +kernel
theorem dTS_size_97 : decode prog_1_method_16_code 97 = .ok (.aload_n 0, 1) := by decide +kernel
theorem dTS_size_98 : decode prog_1_method_16_code 98 = .ok (.getfield 12, 3) := by decide +kernel
theorem dTS_size_101 : decode prog_1_method_16_code 101 = .ok (.getfield 141, 3) := by decide +kernel
theorem dTS_size_104 : decode prog_1_method_16_code 104 = .ok (.ireturn, 1) := by decide +kernel
theorem dTS_size_105 : decode prog_1_method_16_code 105 = .ok (.iload_n 2, 1) := by decide +kernel
theorem dTS_size_106 : decode prog_1_method_16_code 106 = .ok (.ifCond .eq (10), 3) := by decide +kernel
theorem dTS_size_109 : decode prog_1_method_16_code 109 = .ok (.aload_n 0, 1) := by decide +kernel
theorem dTS_size_110 : decode prog_1_method_16_code 110 = .ok (.getfield 44, 3) := by decide +kernel
theorem dTS_size_113 : decode prog_1_method_16_code 113 = .ok (.goto (4), 3) := by decide +kernel
theorem dTS_size_116 : decode prog_1_method_16_code 116 = .ok (.iconst 0, 1) := by decide +kernel
theorem dTS_size_117 : decode prog_1_method_16_code 117 = .ok (.ireturn, 1) := by decide +kernel
theorem dTS_size_118 : decode prog_1_method_16_code 118 = .ok (.iload_n 2, 1) := by decide +kernel
theorem dTS_size_119 : decode prog_1_method_16_code 119 = .ok (.ifCond .eq (7), 3) := by decide +kernel
theorem dTS_size_122 : decode prog_1_method_16_code 122 = .ok (.iconst 0, 1) := by decide +kernel
theorem dTS_size_123 : decode prog_1_method_16_code 123 = .ok (.goto (4), 3) := by decide +kernel
theorem dTS_size_126 : decode prog_1_method_16_code 126 = .ok (.iconst 1, 1) := by decide +kernel
theorem dTS_size_127 : decode prog_1_method_16_code 127 = .ok (.ireturn, 1) := by decide +kernel
theorem dTS_size_128 : decode prog_1_method_16_code 128 = .ok (.iload_n 2, 1) := by decide +kernel
theorem dTS_size_129 : decode prog_1_method_16_code 129 = .ok (.ifCond .eq (10), 3) := by decide +kernel
theorem dTS_size_132 : decode prog_1_method_16_code 132 = .ok (.aload_n 0, 1) := by decide +kernel
theorem dTS_size_133 : decode prog_1_method_16_code 133 = .ok (.invokevirtual 182, 3) := by decide +kernel
theorem dTS_size_136 : decode prog_1_method_16_code 136 = .ok (.goto (4), 3) := by decide +kernel
theorem dTS_size_139 : decode prog_1_method_16_code 139 = .ok (.iconst 0, 1) := by decide +kernel
theorem dTS_size_140 : decode prog_1_method_16_code 140 = .ok (.ireturn, 1) := by decide +kernel
theorem dTS_size_141 : decode prog_1_method_16_code 141 = .ok (.iconst (-1), 1) := by decide +kernel
theorem dTS_size_142 : decode prog_1_method_16_code 142 = .ok (.ireturn, 1) := by decide +kernel
theorem dTS_isKey_0 : decode prog_1_method_17_code 0 = .ok (.iload_n 0, 1) := by decide +kernel
theorem dTS_isKey_1 : decode prog_1_method_17_code 1 = .ok (.ifCond .lt (13), 3) := by decide +kernel
theorem dTS_isKey_4 : decode prog_1_method_17_code 4 = .ok (.iload_n 0, 1) := by decide +kernel
theorem dTS_isKey_5 : decode prog_1_method_17_code 5 = .ok (.bipush 32, 2) := by decide +kernel
theorem dTS_isKey_7 : decode prog_1_method_17_code 7 = .ok (.if_icmp .ge (7), 3) := by decide +kernel
theorem dTS_isKey_10 : decode prog_1_method_17_code 10 = .ok (.iconst 1, 1) := by decide +kernel
theorem dTS_isKey_11 : decode prog_1_method_17_code 11 = .ok (.goto (4), 3) := by decide +kernel
