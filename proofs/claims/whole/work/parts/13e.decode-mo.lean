theorem dMO_living_16 : decode prog_7_method_30_code 16 = .ok (.istore_n 3, 1) := by decide +kernel
theorem dMO_living_17 : decode prog_7_method_30_code 17 = .ok (.iload_n 3, 1) := by decide +kernel
theorem dMO_living_18 : decode prog_7_method_30_code 18 = .ok (.ifCond .lt (18), 3) := by decide +kernel
theorem dMO_living_21 : decode prog_7_method_30_code 21 = .ok (.aload_n 0, 1) := by decide +kernel
theorem dMO_living_22 : decode prog_7_method_30_code 22 = .ok (.getfield 22, 3) := by decide +kernel
theorem dMO_living_25 : decode prog_7_method_30_code 25 = .ok (.iload_n 3, 1) := by decide +kernel
theorem dMO_living_26 : decode prog_7_method_30_code 26 = .ok (.baload, 1) := by decide +kernel
theorem dMO_living_27 : decode prog_7_method_30_code 27 = .ok (.ifCond .ne (9), 3) := by decide +kernel
theorem dMO_living_30 : decode prog_7_method_30_code 30 = .ok (.iload_n 1, 1) := by decide +kernel
theorem dMO_living_31 : decode prog_7_method_30_code 31 = .ok (.iconst 1, 1) := by decide +kernel
theorem dMO_living_32 : decode prog_7_method_30_code 32 = .ok (.iadd, 1) := by decide +kernel
theorem dMO_living_33 : decode prog_7_method_30_code 33 = .ok (.goto (4), 3) := by decide +kernel
theorem dMO_living_36 : decode prog_7_method_30_code 36 = .ok (.iload_n 1, 1) := by decide +kernel
theorem dMO_living_37 : decode prog_7_method_30_code 37 = .ok (.istore_n 1, 1) := by decide +kernel
theorem dMO_living_38 : decode prog_7_method_30_code 38 = .ok (.iinc 2 1, 3) := by decide +kernel
theorem dMO_living_41 : decode prog_7_method_30_code 41 = .ok (.goto (-37), 3) := by decide +kernel
theorem dMO_living_44 : decode prog_7_method_30_code 44 = .ok (.iload_n 1, 1) := by decide +kernel
theorem dMO_living_45 : decode prog_7_method_30_code 45 = .ok (.ireturn, 1) := by decide +kernel
theorem dMO_size_0 : decode prog_7_method_31_code 0 = .ok (.iload_n 1, 1) := by decide +kernel
theorem dMO_size_1 : decode prog_7_method_31_code 1 = .ok (.tableswitch 130 0 6 #[43, 59, 75, 80, 85, 101, 114], 43) := by decide +kernel
theorem dMO_size_44 : decode prog_7_method_31_code 44 = .ok (.aload_n 0, 1) := by decide +kernel
theorem dMO_size_45 : decode prog_7_method_31_code 45 = .ok (.getfield 100, 3) := by decide +kernel
theorem dMO_size_48 : decode prog_7_method_31_code 48 = .ok (.ifCond .eq (7), 3) := by decide +kernel
theorem dMO_size_51 : decode prog_7_method_31_code 51 = .ok (.iconst 0, 1) := by decide +kernel
theorem dMO_size_52 : decode prog_7_method_31_code 52 = .ok (.goto (7), 3) := by decide +kernel
theorem dMO_size_55 : decode prog_7_method_31_code 55 = .ok (.aload_n 0, 1) := by decide +kernel
theorem dMO_size_56 : decode prog_7_method_31_code 56 = .ok (.invokevirtual 145, 3) := by decide +kernel
theorem dMO_size_59 : decode prog_7_method_31_code 59 = .ok (.ireturn, 1) := by decide +kernel
theorem dMO_size_60 : decode prog_7_method_31_code 60 = .ok (.aload_n 0, 1) := by decide +kernel
theorem dMO_size_61 : decode prog_7_method_31_code 61 = .ok (.getfield 100, 3) := by decide +kernel
theorem dMO_size_64 : decode prog_7_method_31_code 64 = .ok (.ifCond .eq (7), 3) := by decide +kernel
theorem dMO_size_67 : decode prog_7_method_31_code 67 = .ok (.iconst 0, 1) := by decide +kernel
theorem dMO_size_68 : decode prog_7_method_31_code 68 = .ok (.goto (7), 3) := by decide +kernel
theorem dMO_size_71 : decode prog_7_method_31_code 71 = .ok (.aload_n 0, 1) := by decide +kernel
theorem dMO_size_72 : decode prog_7_method_31_code 72 = .ok (.getfield 84, 3) := by decide +kernel
theorem dMO_size_75 : decode prog_7_method_31_code 75 = .ok (.ireturn, 1) := by decide +kernel
theorem dMO_size_76 : decode prog_7_method_31_code 76 = .ok (.aload_n 0, 1) := by decide +kernel
theorem dMO_size_77 : decode prog_7_method_31_code 77 = .ok (.getfield 94, 3) := by decide +kernel
theorem dMO_size_80 : decode prog_7_method_31_code 80 = .ok (.ireturn, 1) := by decide +kernel
theorem dMO_size_81 : decode prog_7_method_31_code 81 = .ok (.aload_n 0, 1) := by decide +kernel
theorem dMO_size_82 : decode prog_7_method_31_code 82 = .ok (.getfield 91, 3) := by decide +kernel
theorem dMO_size_85 : decode prog_7_method_31_code 85 = .ok (.ireturn, 1) := by decide +kernel
theorem dMO_size_86 : decode prog_7_method_31_code 86 = .ok (.aload_n 0, 1) := by decide +kernel
theorem dMO_size_87 : decode prog_7_method_31_code 87 = .ok (.getfield 100, 3) := by decide +kernel
theorem dMO_size_90 : decode prog_7_method_31_code 90 = .ok (.ifCond .eq (7), 3) := by decide +kernel
theorem dMO_size_93 : decode prog_7_method_31_code 93 = .ok (.iconst 0, 1) := by decide +kernel
theorem dMO_size_94 : decode prog_7_method_31_code 94 = .ok (.goto (7), 3) := by decide +kernel
theorem dMO_size_97 : decode prog_7_method_31_code 97 = .ok (.aload_n 0, 1) := by decide +kernel
theorem dMO_size_98 : decode prog_7_method_31_code 98 = .ok (.getfield 136, 3) := by decide +kernel
theorem dMO_size_101 : decode prog_7_method_31_code 101 = .ok (.ireturn, 1) := by decide +kernel
theorem dMO_size_102 : decode prog_7_method_31_code 102 = .ok (.aload_n 0, 1) := by decide +kernel
theorem dMO_size_103 : decode prog_7_method_31_code 103 = .ok (.getfield 100, 3) := by decide +kernel
theorem dMO_size_106 : decode prog_7_method_31_code 106 = .ok (.ifCond .eq (7), 3) := by decide +kernel
theorem dMO_size_109 : decode prog_7_method_31_code 109 = .ok (.iconst 1, 1) := by decide +kernel
theorem dMO_size_110 : decode prog_7_method_31_code 110 = .ok (.goto (4), 3) := by decide +kernel
theorem dMO_size_113 : decode prog_7_method_31_code 113 = .ok (.iconst 0, 1) := by decide +kernel
theorem dMO_size_114 : decode prog_7_method_31_code 114 = .ok (.ireturn, 1) := by decide +kernel
theorem dMO_size_115 : decode prog_7_method_31_code 115 = .ok (.aload_n 0, 1) := by decide +kernel
theorem dMO_size_116 : decode prog_7_method_31_code 116 = .ok (.getfield 100, 3) := by decide +kernel
theorem dMO_size_119 : decode prog_7_method_31_code 119 = .ok (.ifCond .eq (7), 3) := by decide +kernel
theorem dMO_size_122 : decode prog_7_method_31_code 122 = .ok (.iconst 0, 1) := by decide +kernel
theorem dMO_size_123 : decode prog_7_method_31_code 123 = .ok (.goto (7), 3) := by decide +kernel
theorem dMO_size_126 : decode prog_7_method_31_code 126 = .ok (.aload_n 0, 1) := by decide +kernel
theorem dMO_size_127 : decode prog_7_method_31_code 127 = .ok (.invokevirtual 158, 3) := by decide +kernel
theorem dMO_size_130 : decode prog_7_method_31_code 130 = .ok (.ireturn, 1) := by decide +kernel
theorem dMO_size_131 : decode prog_7_method_31_code 131 = .ok (.iconst (-1), 1) := by decide +kernel
theorem dMO_size_132 : decode prog_7_method_31_code 132 = .ok (.ireturn, 1) := by decide +kernel
