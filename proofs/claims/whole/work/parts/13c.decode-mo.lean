theorem dMO_checkpoint_17 : decode prog_7_method_18_code 17 = .ok (.bipush (-3), 2) := by decide +kernel
theorem dMO_checkpoint_19 : decode prog_7_method_18_code 19 = .ok (.ireturn, 1) := by decide +kernel
theorem dMO_checkpoint_20 : decode prog_7_method_18_code 20 = .ok (.iconst 1, 1) := by decide +kernel
theorem dMO_checkpoint_21 : decode prog_7_method_18_code 21 = .ok (.aload_n 0, 1) := by decide +kernel
theorem dMO_checkpoint_22 : decode prog_7_method_18_code 22 = .ok (.getfield 57, 3) := by decide +kernel
theorem dMO_checkpoint_25 : decode prog_7_method_18_code 25 = .ok (.ifCond .ge (7), 3) := by decide +kernel
theorem dMO_checkpoint_28 : decode prog_7_method_18_code 28 = .ok (.iconst 1, 1) := by decide +kernel
theorem dMO_checkpoint_29 : decode prog_7_method_18_code 29 = .ok (.goto (7), 3) := by decide +kernel
theorem dMO_checkpoint_32 : decode prog_7_method_18_code 32 = .ok (.aload_n 0, 1) := by decide +kernel
theorem dMO_checkpoint_33 : decode prog_7_method_18_code 33 = .ok (.getfield 57, 3) := by decide +kernel
theorem dMO_checkpoint_36 : decode prog_7_method_18_code 36 = .ok (.isub, 1) := by decide +kernel
theorem dMO_checkpoint_37 : decode prog_7_method_18_code 37 = .ok (.istore_n 1, 1) := by decide +kernel
theorem dMO_checkpoint_38 : decode prog_7_method_18_code 38 = .ok (.aload_n 0, 1) := by decide +kernel
theorem dMO_checkpoint_39 : decode prog_7_method_18_code 39 = .ok (.getfield 29, 3) := by decide +kernel
theorem dMO_checkpoint_42 : decode prog_7_method_18_code 42 = .ok (.iload_n 1, 1) := by decide +kernel
theorem dMO_checkpoint_43 : decode prog_7_method_18_code 43 = .ok (.aload_n 0, 1) := by decide +kernel
theorem dMO_checkpoint_44 : decode prog_7_method_18_code 44 = .ok (.getfield 84, 3) := by decide +kernel
theorem dMO_checkpoint_47 : decode prog_7_method_18_code 47 = .ok (.iastore, 1) := by decide +kernel
theorem dMO_checkpoint_48 : decode prog_7_method_18_code 48 = .ok (.aload_n 0, 1) := by decide +kernel
theorem dMO_checkpoint_49 : decode prog_7_method_18_code 49 = .ok (.getfield 32, 3) := by decide +kernel
theorem dMO_checkpoint_52 : decode prog_7_method_18_code 52 = .ok (.iload_n 1, 1) := by decide +kernel
theorem dMO_checkpoint_53 : decode prog_7_method_18_code 53 = .ok (.aload_n 0, 1) := by decide +kernel
theorem dMO_checkpoint_54 : decode prog_7_method_18_code 54 = .ok (.getfield 63, 3) := by decide +kernel
theorem dMO_checkpoint_57 : decode prog_7_method_18_code 57 = .ok (.iastore, 1) := by decide +kernel
theorem dMO_checkpoint_58 : decode prog_7_method_18_code 58 = .ok (.aload_n 0, 1) := by decide +kernel
theorem dMO_checkpoint_59 : decode prog_7_method_18_code 59 = .ok (.getfield 35, 3) := by decide +kernel
theorem dMO_checkpoint_62 : decode prog_7_method_18_code 62 = .ok (.iload_n 1, 1) := by decide +kernel
theorem dMO_checkpoint_63 : decode prog_7_method_18_code 63 = .ok (.aload_n 0, 1) := by decide +kernel
theorem dMO_checkpoint_64 : decode prog_7_method_18_code 64 = .ok (.getfield 75, 3) := by decide +kernel
theorem dMO_checkpoint_67 : decode prog_7_method_18_code 67 = .ok (.iastore, 1) := by decide +kernel
theorem dMO_checkpoint_68 : decode prog_7_method_18_code 68 = .ok (.aload_n 0, 1) := by decide +kernel
theorem dMO_checkpoint_69 : decode prog_7_method_18_code 69 = .ok (.getfield 41, 3) := by decide +kernel
theorem dMO_checkpoint_72 : decode prog_7_method_18_code 72 = .ok (.iload_n 1, 1) := by decide +kernel
theorem dMO_checkpoint_73 : decode prog_7_method_18_code 73 = .ok (.aload_n 0, 1) := by decide +kernel
theorem dMO_checkpoint_74 : decode prog_7_method_18_code 74 = .ok (.getfield 78, 3) := by decide +kernel
theorem dMO_checkpoint_77 : decode prog_7_method_18_code 77 = .ok (.iastore, 1) := by decide +kernel
theorem dMO_checkpoint_78 : decode prog_7_method_18_code 78 = .ok (.aload_n 0, 1) := by decide +kernel
theorem dMO_checkpoint_79 : decode prog_7_method_18_code 79 = .ok (.getfield 44, 3) := by decide +kernel
theorem dMO_checkpoint_82 : decode prog_7_method_18_code 82 = .ok (.iload_n 1, 1) := by decide +kernel
theorem dMO_checkpoint_83 : decode prog_7_method_18_code 83 = .ok (.aload_n 0, 1) := by decide +kernel
theorem dMO_checkpoint_84 : decode prog_7_method_18_code 84 = .ok (.getfield 81, 3) := by decide +kernel
theorem dMO_checkpoint_87 : decode prog_7_method_18_code 87 = .ok (.iastore, 1) := by decide +kernel
theorem dMO_checkpoint_88 : decode prog_7_method_18_code 88 = .ok (.aload_n 0, 1) := by decide +kernel
theorem dMO_checkpoint_89 : decode prog_7_method_18_code 89 = .ok (.dup, 1) := by decide +kernel
theorem dMO_checkpoint_90 : decode prog_7_method_18_code 90 = .ok (.getfield 84, 3) := by decide +kernel
theorem dMO_checkpoint_93 : decode prog_7_method_18_code 93 = .ok (.iconst 1, 1) := by decide +kernel
theorem dMO_checkpoint_94 : decode prog_7_method_18_code 94 = .ok (.iadd, 1) := by decide +kernel
theorem dMO_checkpoint_95 : decode prog_7_method_18_code 95 = .ok (.putfield 84, 3) := by decide +kernel
theorem dMO_checkpoint_98 : decode prog_7_method_18_code 98 = .ok (.aload_n 0, 1) := by decide +kernel
theorem dMO_checkpoint_99 : decode prog_7_method_18_code 99 = .ok (.iconst 1, 1) := by decide +kernel
theorem dMO_checkpoint_100 : decode prog_7_method_18_code 100 = .ok (.putfield 136, 3) := by decide +kernel
theorem dMO_checkpoint_103 : decode prog_7_method_18_code 103 = .ok (.aload_n 0, 1) := by decide +kernel
theorem dMO_checkpoint_104 : decode prog_7_method_18_code 104 = .ok (.iconst 0, 1) := by decide +kernel
theorem dMO_checkpoint_105 : decode prog_7_method_18_code 105 = .ok (.putfield 139, 3) := by decide +kernel
theorem dMO_checkpoint_108 : decode prog_7_method_18_code 108 = .ok (.aload_n 0, 1) := by decide +kernel
theorem dMO_checkpoint_109 : decode prog_7_method_18_code 109 = .ok (.iconst 0, 1) := by decide +kernel
theorem dMO_checkpoint_110 : decode prog_7_method_18_code 110 = .ok (.putfield 142, 3) := by decide +kernel
theorem dMO_checkpoint_113 : decode prog_7_method_18_code 113 = .ok (.aload_n 0, 1) := by decide +kernel
theorem dMO_checkpoint_114 : decode prog_7_method_18_code 114 = .ok (.getfield 84, 3) := by decide +kernel
theorem dMO_checkpoint_117 : decode prog_7_method_18_code 117 = .ok (.iconst 1, 1) := by decide +kernel
theorem dMO_checkpoint_118 : decode prog_7_method_18_code 118 = .ok (.isub, 1) := by decide +kernel
theorem dMO_checkpoint_119 : decode prog_7_method_18_code 119 = .ok (.ireturn, 1) := by decide +kernel
theorem dMO_writing_0 : decode prog_7_method_19_code 0 = .ok (.iconst 1, 1) := by decide +kernel
theorem dMO_writing_1 : decode prog_7_method_19_code 1 = .ok (.aload_n 0, 1) := by decide +kernel
theorem dMO_writing_2 : decode prog_7_method_19_code 2 = .ok (.getfield 57, 3) := by decide +kernel
theorem dMO_writing_5 : decode prog_7_method_19_code 5 = .ok (.ifCond .ge (7), 3) := by decide +kernel
theorem dMO_writing_8 : decode prog_7_method_19_code 8 = .ok (.iconst 1, 1) := by decide +kernel
theorem dMO_writing_9 : decode prog_7_method_19_code 9 = .ok (.goto (7), 3) := by decide +kernel
theorem dMO_writing_12 : decode prog_7_method_19_code 12 = .ok (.aload_n 0, 1) := by decide +kernel
theorem dMO_writing_13 : decode prog_7_method_19_code 13 = .ok (.getfield 57, 3) := by decide +kernel
theorem dMO_writing_16 : decode prog_7_method_19_code 16 = .ok (.isub, 1) := by decide +kernel
theorem dMO_writing_17 : decode prog_7_method_19_code 17 = .ok (.ireturn, 1) := by decide +kernel
theorem dMO_image_0 : decode prog_7_method_20_code 0 = .ok (.aload_n 0, 1) := by decide +kernel
theorem dMO_image_1 : decode prog_7_method_20_code 1 = .ok (.getfield 139, 3) := by decide +kernel
theorem dMO_image_4 : decode prog_7_method_20_code 4 = .ok (.iconst 4, 1) := by decide +kernel
theorem dMO_image_5 : decode prog_7_method_20_code 5 = .ok (.iadd, 1) := by decide +kernel
theorem dMO_image_6 : decode prog_7_method_20_code 6 = .ok (.aload_n 0, 1) := by decide +kernel
theorem dMO_image_7 : decode prog_7_method_20_code 7 = .ok (.invokevirtual 145, 3) := by decide +kernel
theorem dMO_image_10 : decode prog_7_method_20_code 10 = .ok (.if_icmp .ge (12), 3) := by decide +kernel
theorem dMO_image_13 : decode prog_7_method_20_code 13 = .ok (.aload_n 0, 1) := by decide +kernel
theorem dMO_image_14 : decode prog_7_method_20_code 14 = .ok (.getfield 139, 3) := by decide +kernel
theorem dMO_image_17 : decode prog_7_method_20_code 17 = .ok (.iconst 4, 1) := by decide +kernel
theorem dMO_image_18 : decode prog_7_method_20_code 18 = .ok (.iadd, 1) := by decide +kernel
theorem dMO_image_19 : decode prog_7_method_20_code 19 = .ok (.goto (7), 3) := by decide +kernel
theorem dMO_image_22 : decode prog_7_method_20_code 22 = .ok (.aload_n 0, 1) := by decide +kernel
theorem dMO_image_23 : decode prog_7_method_20_code 23 = .ok (.invokevirtual 145, 3) := by decide +kernel
theorem dMO_image_26 : decode prog_7_method_20_code 26 = .ok (.istore_n 1, 1) := by decide +kernel
theorem dMO_image_27 : decode prog_7_method_20_code 27 = .ok (.aload_n 0, 1) := by decide +kernel
theorem dMO_image_28 : decode prog_7_method_20_code 28 = .ok (.getfield 139, 3) := by decide +kernel
theorem dMO_image_31 : decode prog_7_method_20_code 31 = .ok (.istore_n 2, 1) := by decide +kernel
theorem dMO_image_32 : decode prog_7_method_20_code 32 = .ok (.iload_n 2, 1) := by decide +kernel
theorem dMO_image_33 : decode prog_7_method_20_code 33 = .ok (.iload_n 1, 1) := by decide +kernel
theorem dMO_image_34 : decode prog_7_method_20_code 34 = .ok (.if_icmp .ge (29), 3) := by decide +kernel
theorem dMO_image_37 : decode prog_7_method_20_code 37 = .ok (.aload_n 0, 1) := by decide +kernel
theorem dMO_image_38 : decode prog_7_method_20_code 38 = .ok (.getfield 47, 3) := by decide +kernel
theorem dMO_image_41 : decode prog_7_method_20_code 41 = .ok (.bipush 16, 2) := by decide +kernel
theorem dMO_image_43 : decode prog_7_method_20_code 43 = .ok (.aload_n 0, 1) := by decide +kernel
theorem dMO_image_44 : decode prog_7_method_20_code 44 = .ok (.invokevirtual 149, 3) := by decide +kernel
theorem dMO_image_47 : decode prog_7_method_20_code 47 = .ok (.imul, 1) := by decide +kernel
theorem dMO_image_48 : decode prog_7_method_20_code 48 = .ok (.iload_n 2, 1) := by decide +kernel
theorem dMO_image_49 : decode prog_7_method_20_code 49 = .ok (.iadd, 1) := by decide +kernel
theorem dMO_image_50 : decode prog_7_method_20_code 50 = .ok (.aload_n 0, 1) := by decide +kernel
theorem dMO_image_51 : decode prog_7_method_20_code 51 = .ok (.getfield 26, 3) := by decide +kernel
theorem dMO_image_54 : decode prog_7_method_20_code 54 = .ok (.iload_n 2, 1) := by decide +kernel
theorem dMO_image_55 : decode prog_7_method_20_code 55 = .ok (.iaload, 1) := by decide +kernel
theorem dMO_image_56 : decode prog_7_method_20_code 56 = .ok (.iastore, 1) := by decide +kernel
theorem dMO_image_57 : decode prog_7_method_20_code 57 = .ok (.iinc 2 1, 3) := by decide +kernel
theorem dMO_image_60 : decode prog_7_method_20_code 60 = .ok (.goto (-28), 3) := by decide +kernel
theorem dMO_image_63 : decode prog_7_method_20_code 63 = .ok (.aload_n 0, 1) := by decide +kernel
theorem dMO_image_64 : decode prog_7_method_20_code 64 = .ok (.iload_n 1, 1) := by decide +kernel
theorem dMO_image_65 : decode prog_7_method_20_code 65 = .ok (.putfield 139, 3) := by decide +kernel
theorem dMO_image_68 : decode prog_7_method_20_code 68 = .ok (.aload_n 0, 1) := by decide +kernel
theorem dMO_image_69 : decode prog_7_method_20_code 69 = .ok (.aload_n 0, 1) := by decide +kernel
theorem dMO_image_70 : decode prog_7_method_20_code 70 = .ok (.getfield 139, 3) := by decide +kernel
theorem dMO_image_73 : decode prog_7_method_20_code 73 = .ok (.aload_n 0, 1) := by decide +kernel
theorem dMO_image_74 : decode prog_7_method_20_code 74 = .ok (.invokevirtual 145, 3) := by decide +kernel
theorem dMO_image_77 : decode prog_7_method_20_code 77 = .ok (.if_icmp .ne (7), 3) := by decide +kernel
theorem dMO_image_80 : decode prog_7_method_20_code 80 = .ok (.iconst 2, 1) := by decide +kernel
theorem dMO_image_81 : decode prog_7_method_20_code 81 = .ok (.goto (4), 3) := by decide +kernel
theorem dMO_image_84 : decode prog_7_method_20_code 84 = .ok (.iconst 1, 1) := by decide +kernel
theorem dMO_image_85 : decode prog_7_method_20_code 85 = .ok (.putfield 136, 3) := by decide +kernel
theorem dMO_image_88 : decode prog_7_method_20_code 88 = .ok (.aload_n 0, 1) := by decide +kernel
theorem dMO_image_89 : decode prog_7_method_20_code 89 = .ok (.invokevirtual 107, 3) := by decide +kernel
theorem dMO_image_92 : decode prog_7_method_20_code 92 = .ok (.ifCond .eq (7), 3) := by decide +kernel
theorem dMO_image_95 : decode prog_7_method_20_code 95 = .ok (.iconst 1, 1) := by decide +kernel
theorem dMO_image_96 : decode prog_7_method_20_code 96 = .ok (.goto (5), 3) := by decide +kernel
theorem dMO_image_99 : decode prog_7_method_20_code 99 = .ok (.bipush (-9), 2) := by decide +kernel
theorem dMO_image_101 : decode prog_7_method_20_code 101 = .ok (.ireturn, 1) := by decide +kernel
theorem dMO_flushing_0 : decode prog_7_method_21_code 0 = .ok (.aload_n 0, 1) := by decide +kernel
theorem dMO_flushing_1 : decode prog_7_method_21_code 1 = .ok (.invokevirtual 149, 3) := by decide +kernel
theorem dMO_flushing_4 : decode prog_7_method_21_code 4 = .ok (.istore_n 1, 1) := by decide +kernel
theorem dMO_flushing_5 : decode prog_7_method_21_code 5 = .ok (.aload_n 0, 1) := by decide +kernel
theorem dMO_flushing_6 : decode prog_7_method_21_code 6 = .ok (.getfield 142, 3) := by decide +kernel
theorem dMO_flushing_9 : decode prog_7_method_21_code 9 = .ok (.ifCond .ne (26), 3) := by decide +kernel
theorem dMO_flushing_12 : decode prog_7_method_21_code 12 = .ok (.aload_n 0, 1) := by decide +kernel
theorem dMO_flushing_13 : decode prog_7_method_21_code 13 = .ok (.aload_n 0, 1) := by decide +kernel
theorem dMO_flushing_14 : decode prog_7_method_21_code 14 = .ok (.getfield 75, 3) := by decide +kernel
theorem dMO_flushing_17 : decode prog_7_method_21_code 17 = .ok (.putfield 72, 3) := by decide +kernel
theorem dMO_flushing_20 : decode prog_7_method_21_code 20 = .ok (.aload_n 0, 1) := by decide +kernel
theorem dMO_flushing_21 : decode prog_7_method_21_code 21 = .ok (.getfield 38, 3) := by decide +kernel
theorem dMO_flushing_24 : decode prog_7_method_21_code 24 = .ok (.iload_n 1, 1) := by decide +kernel
theorem dMO_flushing_25 : decode prog_7_method_21_code 25 = .ok (.aload_n 0, 1) := by decide +kernel
theorem dMO_flushing_26 : decode prog_7_method_21_code 26 = .ok (.getfield 75, 3) := by decide +kernel
theorem dMO_flushing_29 : decode prog_7_method_21_code 29 = .ok (.iastore, 1) := by decide +kernel
theorem dMO_flushing_30 : decode prog_7_method_21_code 30 = .ok (.aload_n 0, 1) := by decide +kernel
theorem dMO_flushing_31 : decode prog_7_method_21_code 31 = .ok (.iconst 1, 1) := by decide +kernel
theorem dMO_flushing_32 : decode prog_7_method_21_code 32 = .ok (.putfield 142, 3) := by decide +kernel
theorem dMO_flushing_35 : decode prog_7_method_21_code 35 = .ok (.iconst 1, 1) := by decide +kernel
theorem dMO_flushing_36 : decode prog_7_method_21_code 36 = .ok (.istore_n 2, 1) := by decide +kernel
theorem dMO_flushing_37 : decode prog_7_method_21_code 37 = .ok (.aload_n 0, 1) := by decide +kernel
theorem dMO_flushing_38 : decode prog_7_method_21_code 38 = .ok (.getfield 69, 3) := by decide +kernel
theorem dMO_flushing_41 : decode prog_7_method_21_code 41 = .ok (.aload_n 0, 1) := by decide +kernel
theorem dMO_flushing_42 : decode prog_7_method_21_code 42 = .ok (.getfield 38, 3) := by decide +kernel
theorem dMO_flushing_45 : decode prog_7_method_21_code 45 = .ok (.iload_n 1, 1) := by decide +kernel
theorem dMO_flushing_46 : decode prog_7_method_21_code 46 = .ok (.iaload, 1) := by decide +kernel
theorem dMO_flushing_47 : decode prog_7_method_21_code 47 = .ok (.if_icmp .ge (36), 3) := by decide +kernel
theorem dMO_flushing_50 : decode prog_7_method_21_code 50 = .ok (.aload_n 0, 1) := by decide +kernel
theorem dMO_flushing_51 : decode prog_7_method_21_code 51 = .ok (.getfield 69, 3) := by decide +kernel
theorem dMO_flushing_54 : decode prog_7_method_21_code 54 = .ok (.invokestatic 104, 3) := by decide +kernel
theorem dMO_flushing_57 : decode prog_7_method_21_code 57 = .ok (.istore_n 3, 1) := by decide +kernel
theorem dMO_flushing_58 : decode prog_7_method_21_code 58 = .ok (.aload_n 0, 1) := by decide +kernel
theorem dMO_flushing_59 : decode prog_7_method_21_code 59 = .ok (.iload_n 3, 1) := by decide +kernel
theorem dMO_flushing_60 : decode prog_7_method_21_code 60 = .ok (.aload_n 0, 1) := by decide +kernel
theorem dMO_flushing_61 : decode prog_7_method_21_code 61 = .ok (.getfield 38, 3) := by decide +kernel
theorem dMO_flushing_64 : decode prog_7_method_21_code 64 = .ok (.iload_n 1, 1) := by decide +kernel
theorem dMO_flushing_65 : decode prog_7_method_21_code 65 = .ok (.iaload, 1) := by decide +kernel
theorem dMO_flushing_66 : decode prog_7_method_21_code 66 = .ok (.if_icmp .ge (7), 3) := by decide +kernel
theorem dMO_flushing_69 : decode prog_7_method_21_code 69 = .ok (.iload_n 3, 1) := by decide +kernel
theorem dMO_flushing_70 : decode prog_7_method_21_code 70 = .ok (.goto (9), 3) := by decide +kernel
theorem dMO_flushing_73 : decode prog_7_method_21_code 73 = .ok (.aload_n 0, 1) := by decide +kernel
theorem dMO_flushing_74 : decode prog_7_method_21_code 74 = .ok (.getfield 38, 3) := by decide +kernel
theorem dMO_flushing_77 : decode prog_7_method_21_code 77 = .ok (.iload_n 1, 1) := by decide +kernel
theorem dMO_flushing_78 : decode prog_7_method_21_code 78 = .ok (.iaload, 1) := by decide +kernel
theorem dMO_flushing_79 : decode prog_7_method_21_code 79 = .ok (.invokevirtual 111, 3) := by decide +kernel
theorem dMO_flushing_82 : decode prog_7_method_21_code 82 = .ok (.istore_n 2, 1) := by decide +kernel
theorem dMO_flushing_83 : decode prog_7_method_21_code 83 = .ok (.aload_n 0, 1) := by decide +kernel
theorem dMO_flushing_84 : decode prog_7_method_21_code 84 = .ok (.aload_n 0, 1) := by decide +kernel
theorem dMO_flushing_85 : decode prog_7_method_21_code 85 = .ok (.getfield 69, 3) := by decide +kernel
theorem dMO_flushing_88 : decode prog_7_method_21_code 88 = .ok (.aload_n 0, 1) := by decide +kernel
theorem dMO_flushing_89 : decode prog_7_method_21_code 89 = .ok (.getfield 38, 3) := by decide +kernel
theorem dMO_flushing_92 : decode prog_7_method_21_code 92 = .ok (.iload_n 1, 1) := by decide +kernel
theorem dMO_flushing_93 : decode prog_7_method_21_code 93 = .ok (.iaload, 1) := by decide +kernel
theorem dMO_flushing_94 : decode prog_7_method_21_code 94 = .ok (.if_icmp .lt (7), 3) := by decide +kernel
theorem dMO_flushing_97 : decode prog_7_method_21_code 97 = .ok (.iconst 3, 1) := by decide +kernel
theorem dMO_flushing_98 : decode prog_7_method_21_code 98 = .ok (.goto (4), 3) := by decide +kernel
theorem dMO_flushing_101 : decode prog_7_method_21_code 101 = .ok (.iconst 2, 1) := by decide +kernel
theorem dMO_flushing_102 : decode prog_7_method_21_code 102 = .ok (.putfield 136, 3) := by decide +kernel
theorem dMO_flushing_105 : decode prog_7_method_21_code 105 = .ok (.iload_n 2, 1) := by decide +kernel
theorem dMO_flushing_106 : decode prog_7_method_21_code 106 = .ok (.ifCond .eq (7), 3) := by decide +kernel
theorem dMO_flushing_109 : decode prog_7_method_21_code 109 = .ok (.iconst 2, 1) := by decide +kernel
theorem dMO_flushing_110 : decode prog_7_method_21_code 110 = .ok (.goto (5), 3) := by decide +kernel
theorem dMO_flushing_113 : decode prog_7_method_21_code 113 = .ok (.bipush (-9), 2) := by decide +kernel
theorem dMO_flushing_115 : decode prog_7_method_21_code 115 = .ok (.ireturn, 1) := by decide +kernel
theorem dMO_step_0 : decode prog_7_method_22_code 0 = .ok (.aload_n 0, 1) := by decide +kernel
theorem dMO_step_1 : decode prog_7_method_22_code 1 = .ok (.getfield 100, 3) := by decide +kernel
theorem dMO_step_4 : decode prog_7_method_22_code 4 = .ok (.ifCond .eq (6), 3) := by decide +kernel
theorem dMO_step_7 : decode prog_7_method_22_code 7 = .ok (.bipush (-9), 2) := by decide +kernel
theorem dMO_step_9 : decode prog_7_method_22_code 9 = .ok (.ireturn, 1) := by decide +kernel
theorem dMO_step_10 : decode prog_7_method_22_code 10 = .ok (.aload_n 0, 1) := by decide +kernel
theorem dMO_step_11 : decode prog_7_method_22_code 11 = .ok (.getfield 136, 3) := by decide +kernel
theorem dMO_step_14 : decode prog_7_method_22_code 14 = .ok (.iconst 1, 1) := by decide +kernel
theorem dMO_step_15 : decode prog_7_method_22_code 15 = .ok (.if_icmp .ne (8), 3) := by decide +kernel
theorem dMO_step_18 : decode prog_7_method_22_code 18 = .ok (.aload_n 0, 1) := by decide +kernel
theorem dMO_step_19 : decode prog_7_method_22_code 19 = .ok (.invokevirtual 152, 3) := by decide +kernel
theorem dMO_step_22 : decode prog_7_method_22_code 22 = .ok (.ireturn, 1) := by decide +kernel
theorem dMO_step_23 : decode prog_7_method_22_code 23 = .ok (.aload_n 0, 1) := by decide +kernel
theorem dMO_step_24 : decode prog_7_method_22_code 24 = .ok (.getfield 136, 3) := by decide +kernel
theorem dMO_step_27 : decode prog_7_method_22_code 27 = .ok (.iconst 2, 1) := by decide +kernel
theorem dMO_step_28 : decode prog_7_method_22_code 28 = .ok (.if_icmp .ne (8), 3) := by decide +kernel
theorem dMO_step_31 : decode prog_7_method_22_code 31 = .ok (.aload_n 0, 1) := by decide +kernel
theorem dMO_step_32 : decode prog_7_method_22_code 32 = .ok (.invokevirtual 155, 3) := by decide +kernel
theorem dMO_step_35 : decode prog_7_method_22_code 35 = .ok (.ireturn, 1) := by decide +kernel
theorem dMO_step_36 : decode prog_7_method_22_code 36 = .ok (.aload_n 0, 1) := by decide +kernel
theorem dMO_step_37 : decode prog_7_method_22_code 37 = .ok (.getfield 136, 3) := by decide +kernel
theorem dMO_step_40 : decode prog_7_method_22_code 40 = .ok (.ifCond .ne (6), 3) := by decide +kernel
theorem dMO_step_43 : decode prog_7_method_22_code 43 = .ok (.bipush (-3), 2) := by decide +kernel
theorem dMO_step_45 : decode prog_7_method_22_code 45 = .ok (.ireturn, 1) := by decide +kernel
theorem dMO_step_46 : decode prog_7_method_22_code 46 = .ok (.aload_n 0, 1) := by decide +kernel
theorem dMO_step_47 : decode prog_7_method_22_code 47 = .ok (.aload_n 0, 1) := by decide +kernel
theorem dMO_step_48 : decode prog_7_method_22_code 48 = .ok (.invokevirtual 149, 3) := by decide +kernel
theorem dMO_step_51 : decode prog_7_method_22_code 51 = .ok (.putfield 57, 3) := by decide +kernel
theorem dMO_step_54 : decode prog_7_method_22_code 54 = .ok (.aload_n 0, 1) := by decide +kernel
theorem dMO_step_55 : decode prog_7_method_22_code 55 = .ok (.iconst 0, 1) := by decide +kernel
theorem dMO_step_56 : decode prog_7_method_22_code 56 = .ok (.putfield 136, 3) := by decide +kernel
theorem dMO_step_59 : decode prog_7_method_22_code 59 = .ok (.aload_n 0, 1) := by decide +kernel
theorem dMO_step_60 : decode prog_7_method_22_code 60 = .ok (.invokevirtual 107, 3) := by decide +kernel
theorem dMO_step_63 : decode prog_7_method_22_code 63 = .ok (.ifCond .eq (7), 3) := by decide +kernel
theorem dMO_step_66 : decode prog_7_method_22_code 66 = .ok (.iconst 3, 1) := by decide +kernel
theorem dMO_step_67 : decode prog_7_method_22_code 67 = .ok (.goto (5), 3) := by decide +kernel
theorem dMO_step_70 : decode prog_7_method_22_code 70 = .ok (.bipush (-9), 2) := by decide +kernel
theorem dMO_step_72 : decode prog_7_method_22_code 72 = .ok (.ireturn, 1) := by decide +kernel
theorem dMO_grow_0 : decode prog_7_method_23_code 0 = .ok (.aload_n 0, 1) := by decide +kernel
theorem dMO_grow_1 : decode prog_7_method_23_code 1 = .ok (.getfield 100, 3) := by decide +kernel
theorem dMO_grow_4 : decode prog_7_method_23_code 4 = .ok (.ifCond .eq (6), 3) := by decide +kernel
theorem dMO_grow_7 : decode prog_7_method_23_code 7 = .ok (.bipush (-9), 2) := by decide +kernel
theorem dMO_grow_9 : decode prog_7_method_23_code 9 = .ok (.ireturn, 1) := by decide +kernel
theorem dMO_grow_10 : decode prog_7_method_23_code 10 = .ok (.aload_n 0, 1) := by decide +kernel
theorem dMO_grow_11 : decode prog_7_method_23_code 11 = .ok (.getfield 136, 3) := by decide +kernel
theorem dMO_grow_14 : decode prog_7_method_23_code 14 = .ok (.ifCond .gt (12), 3) := by decide +kernel
theorem dMO_grow_17 : decode prog_7_method_23_code 17 = .ok (.aload_n 0, 1) := by decide +kernel
theorem dMO_grow_18 : decode prog_7_method_23_code 18 = .ok (.invokevirtual 145, 3) := by decide +kernel
theorem dMO_grow_21 : decode prog_7_method_23_code 21 = .ok (.bipush 16, 2) := by decide +kernel
theorem dMO_grow_23 : decode prog_7_method_23_code 23 = .ok (.if_icmp .ne (6), 3) := by decide +kernel
theorem dMO_grow_26 : decode prog_7_method_23_code 26 = .ok (.bipush (-3), 2) := by decide +kernel
theorem dMO_grow_28 : decode prog_7_method_23_code 28 = .ok (.ireturn, 1) := by decide +kernel
theorem dMO_grow_29 : decode prog_7_method_23_code 29 = .ok (.aload_n 0, 1) := by decide +kernel
theorem dMO_grow_30 : decode prog_7_method_23_code 30 = .ok (.getfield 26, 3) := by decide +kernel
theorem dMO_grow_33 : decode prog_7_method_23_code 33 = .ok (.aload_n 0, 1) := by decide +kernel
theorem dMO_grow_34 : decode prog_7_method_23_code 34 = .ok (.invokevirtual 145, 3) := by decide +kernel
theorem dMO_grow_37 : decode prog_7_method_23_code 37 = .ok (.aload_n 0, 1) := by decide +kernel
theorem dMO_grow_38 : decode prog_7_method_23_code 38 = .ok (.getfield 26, 3) := by decide +kernel
theorem dMO_grow_41 : decode prog_7_method_23_code 41 = .ok (.aload_n 0, 1) := by decide +kernel
theorem dMO_grow_42 : decode prog_7_method_23_code 42 = .ok (.getfield 81, 3) := by decide +kernel
theorem dMO_grow_45 : decode prog_7_method_23_code 45 = .ok (.iaload, 1) := by decide +kernel
theorem dMO_grow_46 : decode prog_7_method_23_code 46 = .ok (.iastore, 1) := by decide +kernel
theorem dMO_grow_47 : decode prog_7_method_23_code 47 = .ok (.aload_n 0, 1) := by decide +kernel
theorem dMO_grow_48 : decode prog_7_method_23_code 48 = .ok (.dup, 1) := by decide +kernel
theorem dMO_grow_49 : decode prog_7_method_23_code 49 = .ok (.getfield 81, 3) := by decide +kernel
theorem dMO_grow_52 : decode prog_7_method_23_code 52 = .ok (.iconst 1, 1) := by decide +kernel
theorem dMO_grow_53 : decode prog_7_method_23_code 53 = .ok (.iadd, 1) := by decide +kernel
theorem dMO_grow_54 : decode prog_7_method_23_code 54 = .ok (.putfield 81, 3) := by decide +kernel
theorem dMO_grow_57 : decode prog_7_method_23_code 57 = .ok (.aload_n 0, 1) := by decide +kernel
theorem dMO_grow_58 : decode prog_7_method_23_code 58 = .ok (.getfield 81, 3) := by decide +kernel
theorem dMO_grow_61 : decode prog_7_method_23_code 61 = .ok (.iconst 1, 1) := by decide +kernel
theorem dMO_grow_62 : decode prog_7_method_23_code 62 = .ok (.aload_n 0, 1) := by decide +kernel
theorem dMO_grow_63 : decode prog_7_method_23_code 63 = .ok (.getfield 78, 3) := by decide +kernel
theorem dMO_grow_66 : decode prog_7_method_23_code 66 = .ok (.ishl, 1) := by decide +kernel
theorem dMO_grow_67 : decode prog_7_method_23_code 67 = .ok (.if_icmp .ne (18), 3) := by decide +kernel
theorem dMO_grow_70 : decode prog_7_method_23_code 70 = .ok (.aload_n 0, 1) := by decide +kernel
theorem dMO_grow_71 : decode prog_7_method_23_code 71 = .ok (.dup, 1) := by decide +kernel
theorem dMO_grow_72 : decode prog_7_method_23_code 72 = .ok (.getfield 78, 3) := by decide +kernel
theorem dMO_grow_75 : decode prog_7_method_23_code 75 = .ok (.iconst 1, 1) := by decide +kernel
theorem dMO_grow_76 : decode prog_7_method_23_code 76 = .ok (.iadd, 1) := by decide +kernel
theorem dMO_grow_77 : decode prog_7_method_23_code 77 = .ok (.putfield 78, 3) := by decide +kernel
theorem dMO_grow_80 : decode prog_7_method_23_code 80 = .ok (.aload_n 0, 1) := by decide +kernel
theorem dMO_grow_81 : decode prog_7_method_23_code 81 = .ok (.iconst 0, 1) := by decide +kernel
theorem dMO_grow_82 : decode prog_7_method_23_code 82 = .ok (.putfield 81, 3) := by decide +kernel
theorem dMO_grow_85 : decode prog_7_method_23_code 85 = .ok (.aload_n 0, 1) := by decide +kernel
theorem dMO_grow_86 : decode prog_7_method_23_code 86 = .ok (.invokevirtual 145, 3) := by decide +kernel
theorem dMO_grow_89 : decode prog_7_method_23_code 89 = .ok (.ireturn, 1) := by decide +kernel
theorem dMO_compact_0 : decode prog_7_method_24_code 0 = .ok (.aload_n 0, 1) := by decide +kernel
theorem dMO_compact_1 : decode prog_7_method_24_code 1 = .ok (.getfield 100, 3) := by decide +kernel
theorem dMO_compact_4 : decode prog_7_method_24_code 4 = .ok (.ifCond .eq (6), 3) := by decide +kernel
theorem dMO_compact_7 : decode prog_7_method_24_code 7 = .ok (.bipush (-9), 2) := by decide +kernel
theorem dMO_compact_9 : decode prog_7_method_24_code 9 = .ok (.ireturn, 1) := by decide +kernel
theorem dMO_compact_10 : decode prog_7_method_24_code 10 = .ok (.aload_n 0, 1) := by decide +kernel
theorem dMO_compact_11 : decode prog_7_method_24_code 11 = .ok (.getfield 63, 3) := by decide +kernel
theorem dMO_compact_14 : decode prog_7_method_24_code 14 = .ok (.invokestatic 104, 3) := by decide +kernel
theorem dMO_compact_17 : decode prog_7_method_24_code 17 = .ok (.istore_n 1, 1) := by decide +kernel
theorem dMO_compact_18 : decode prog_7_method_24_code 18 = .ok (.iload_n 1, 1) := by decide +kernel
theorem dMO_compact_19 : decode prog_7_method_24_code 19 = .ok (.aload_n 0, 1) := by decide +kernel
theorem dMO_compact_20 : decode prog_7_method_24_code 20 = .ok (.getfield 66, 3) := by decide +kernel
theorem dMO_compact_23 : decode prog_7_method_24_code 23 = .ok (.if_icmp .le (6), 3) := by decide +kernel
theorem dMO_compact_26 : decode prog_7_method_24_code 26 = .ok (.bipush (-3), 2) := by decide +kernel
theorem dMO_compact_28 : decode prog_7_method_24_code 28 = .ok (.ireturn, 1) := by decide +kernel
theorem dMO_compact_29 : decode prog_7_method_24_code 29 = .ok (.aload_n 0, 1) := by decide +kernel
theorem dMO_compact_30 : decode prog_7_method_24_code 30 = .ok (.getfield 75, 3) := by decide +kernel
theorem dMO_compact_33 : decode prog_7_method_24_code 33 = .ok (.sipush 396, 3) := by decide +kernel
theorem dMO_compact_36 : decode prog_7_method_24_code 36 = .ok (.if_icmp .le (6), 3) := by decide +kernel
theorem dMO_compact_39 : decode prog_7_method_24_code 39 = .ok (.bipush (-2), 2) := by decide +kernel
