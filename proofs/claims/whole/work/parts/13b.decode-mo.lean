theorem dMO_room_16 : decode prog_7_method_10_code 16 = .ok (.aload_n 0, 1) := by decide +kernel
theorem dMO_room_17 : decode prog_7_method_10_code 17 = .ok (.getfield 54, 3) := by decide +kernel
theorem dMO_room_20 : decode prog_7_method_10_code 20 = .ok (.iconst 1, 1) := by decide +kernel
theorem dMO_room_21 : decode prog_7_method_10_code 21 = .ok (.isub, 1) := by decide +kernel
theorem dMO_room_22 : decode prog_7_method_10_code 22 = .ok (.imul, 1) := by decide +kernel
theorem dMO_room_23 : decode prog_7_method_10_code 23 = .ok (.isub, 1) := by decide +kernel
theorem dMO_room_24 : decode prog_7_method_10_code 24 = .ok (.istore_n 1, 1) := by decide +kernel
theorem dMO_room_25 : decode prog_7_method_10_code 25 = .ok (.aload_n 0, 1) := by decide +kernel
theorem dMO_room_26 : decode prog_7_method_10_code 26 = .ok (.iload_n 1, 1) := by decide +kernel
theorem dMO_room_27 : decode prog_7_method_10_code 27 = .ok (.aload_n 0, 1) := by decide +kernel
theorem dMO_room_28 : decode prog_7_method_10_code 28 = .ok (.getfield 72, 3) := by decide +kernel
theorem dMO_room_31 : decode prog_7_method_10_code 31 = .ok (.if_icmp .le (7), 3) := by decide +kernel
theorem dMO_room_34 : decode prog_7_method_10_code 34 = .ok (.iload_n 1, 1) := by decide +kernel
theorem dMO_room_35 : decode prog_7_method_10_code 35 = .ok (.goto (7), 3) := by decide +kernel
theorem dMO_room_38 : decode prog_7_method_10_code 38 = .ok (.aload_n 0, 1) := by decide +kernel
theorem dMO_room_39 : decode prog_7_method_10_code 39 = .ok (.getfield 72, 3) := by decide +kernel
theorem dMO_room_42 : decode prog_7_method_10_code 42 = .ok (.putfield 72, 3) := by decide +kernel
theorem dMO_room_45 : decode prog_7_method_10_code 45 = .ok (.aload_n 0, 1) := by decide +kernel
theorem dMO_room_46 : decode prog_7_method_10_code 46 = .ok (.getfield 75, 3) := by decide +kernel
theorem dMO_room_49 : decode prog_7_method_10_code 49 = .ok (.iconst 4, 1) := by decide +kernel
theorem dMO_room_50 : decode prog_7_method_10_code 50 = .ok (.aload_n 0, 1) := by decide +kernel
theorem dMO_room_51 : decode prog_7_method_10_code 51 = .ok (.getfield 50, 3) := by decide +kernel
theorem dMO_room_54 : decode prog_7_method_10_code 54 = .ok (.iconst 1, 1) := by decide +kernel
theorem dMO_room_55 : decode prog_7_method_10_code 55 = .ok (.isub, 1) := by decide +kernel
theorem dMO_room_56 : decode prog_7_method_10_code 56 = .ok (.imul, 1) := by decide +kernel
theorem dMO_room_57 : decode prog_7_method_10_code 57 = .ok (.isub, 1) := by decide +kernel
theorem dMO_room_58 : decode prog_7_method_10_code 58 = .ok (.istore_n 2, 1) := by decide +kernel
theorem dMO_room_59 : decode prog_7_method_10_code 59 = .ok (.aload_n 0, 1) := by decide +kernel
theorem dMO_room_60 : decode prog_7_method_10_code 60 = .ok (.getfield 66, 3) := by decide +kernel
theorem dMO_room_63 : decode prog_7_method_10_code 63 = .ok (.iload_n 2, 1) := by decide +kernel
theorem dMO_room_64 : decode prog_7_method_10_code 64 = .ok (.if_icmp .ge (30), 3) := by decide +kernel
theorem dMO_room_67 : decode prog_7_method_10_code 67 = .ok (.aload_n 0, 1) := by decide +kernel
theorem dMO_room_68 : decode prog_7_method_10_code 68 = .ok (.getfield 69, 3) := by decide +kernel
theorem dMO_room_71 : decode prog_7_method_10_code 71 = .ok (.aload_n 0, 1) := by decide +kernel
theorem dMO_room_72 : decode prog_7_method_10_code 72 = .ok (.getfield 66, 3) := by decide +kernel
theorem dMO_room_75 : decode prog_7_method_10_code 75 = .ok (.invokestatic 104, 3) := by decide +kernel
theorem dMO_room_78 : decode prog_7_method_10_code 78 = .ok (.if_icmp .ge (16), 3) := by decide +kernel
theorem dMO_room_81 : decode prog_7_method_10_code 81 = .ok (.aload_n 0, 1) := by decide +kernel
theorem dMO_room_82 : decode prog_7_method_10_code 82 = .ok (.aload_n 0, 1) := by decide +kernel
theorem dMO_room_83 : decode prog_7_method_10_code 83 = .ok (.getfield 72, 3) := by decide +kernel
theorem dMO_room_86 : decode prog_7_method_10_code 86 = .ok (.invokevirtual 111, 3) := by decide +kernel
theorem dMO_room_89 : decode prog_7_method_10_code 89 = .ok (.ifCond .ne (5), 3) := by decide +kernel
theorem dMO_room_92 : decode prog_7_method_10_code 92 = .ok (.iconst 0, 1) := by decide +kernel
theorem dMO_room_93 : decode prog_7_method_10_code 93 = .ok (.ireturn, 1) := by decide +kernel
theorem dMO_room_94 : decode prog_7_method_10_code 94 = .ok (.aload_n 0, 1) := by decide +kernel
theorem dMO_room_95 : decode prog_7_method_10_code 95 = .ok (.aload_n 0, 1) := by decide +kernel
theorem dMO_room_96 : decode prog_7_method_10_code 96 = .ok (.getfield 66, 3) := by decide +kernel
theorem dMO_room_99 : decode prog_7_method_10_code 99 = .ok (.iload_n 2, 1) := by decide +kernel
theorem dMO_room_100 : decode prog_7_method_10_code 100 = .ok (.if_icmp .ge (7), 3) := by decide +kernel
theorem dMO_room_103 : decode prog_7_method_10_code 103 = .ok (.iload_n 2, 1) := by decide +kernel
theorem dMO_room_104 : decode prog_7_method_10_code 104 = .ok (.goto (7), 3) := by decide +kernel
theorem dMO_room_107 : decode prog_7_method_10_code 107 = .ok (.aload_n 0, 1) := by decide +kernel
theorem dMO_room_108 : decode prog_7_method_10_code 108 = .ok (.getfield 66, 3) := by decide +kernel
theorem dMO_room_111 : decode prog_7_method_10_code 111 = .ok (.putfield 66, 3) := by decide +kernel
theorem dMO_room_114 : decode prog_7_method_10_code 114 = .ok (.iconst 1, 1) := by decide +kernel
theorem dMO_room_115 : decode prog_7_method_10_code 115 = .ok (.ireturn, 1) := by decide +kernel
theorem dMO_append_0 : decode prog_7_method_11_code 0 = .ok (.aload_n 0, 1) := by decide +kernel
theorem dMO_append_1 : decode prog_7_method_11_code 1 = .ok (.invokevirtual 115, 3) := by decide +kernel
theorem dMO_append_4 : decode prog_7_method_11_code 4 = .ok (.ifCond .ne (5), 3) := by decide +kernel
theorem dMO_append_7 : decode prog_7_method_11_code 7 = .ok (.iconst 0, 1) := by decide +kernel
theorem dMO_append_8 : decode prog_7_method_11_code 8 = .ok (.ireturn, 1) := by decide +kernel
theorem dMO_append_9 : decode prog_7_method_11_code 9 = .ok (.aload_n 0, 1) := by decide +kernel
theorem dMO_append_10 : decode prog_7_method_11_code 10 = .ok (.iload_n 1, 1) := by decide +kernel
theorem dMO_append_11 : decode prog_7_method_11_code 11 = .ok (.invokevirtual 87, 3) := by decide +kernel
theorem dMO_append_14 : decode prog_7_method_11_code 14 = .ok (.istore 4, 2) := by decide +kernel
theorem dMO_append_16 : decode prog_7_method_11_code 16 = .ok (.aload_n 0, 1) := by decide +kernel
theorem dMO_append_17 : decode prog_7_method_11_code 17 = .ok (.getfield 7, 3) := by decide +kernel
theorem dMO_append_20 : decode prog_7_method_11_code 20 = .ok (.aload_n 0, 1) := by decide +kernel
theorem dMO_append_21 : decode prog_7_method_11_code 21 = .ok (.getfield 75, 3) := by decide +kernel
theorem dMO_append_24 : decode prog_7_method_11_code 24 = .ok (.iload_n 1, 1) := by decide +kernel
theorem dMO_append_25 : decode prog_7_method_11_code 25 = .ok (.iastore, 1) := by decide +kernel
theorem dMO_append_26 : decode prog_7_method_11_code 26 = .ok (.aload_n 0, 1) := by decide +kernel
theorem dMO_append_27 : decode prog_7_method_11_code 27 = .ok (.getfield 13, 3) := by decide +kernel
theorem dMO_append_30 : decode prog_7_method_11_code 30 = .ok (.aload_n 0, 1) := by decide +kernel
theorem dMO_append_31 : decode prog_7_method_11_code 31 = .ok (.getfield 75, 3) := by decide +kernel
theorem dMO_append_34 : decode prog_7_method_11_code 34 = .ok (.iload_n 2, 1) := by decide +kernel
theorem dMO_append_35 : decode prog_7_method_11_code 35 = .ok (.iastore, 1) := by decide +kernel
theorem dMO_append_36 : decode prog_7_method_11_code 36 = .ok (.aload_n 0, 1) := by decide +kernel
theorem dMO_append_37 : decode prog_7_method_11_code 37 = .ok (.getfield 22, 3) := by decide +kernel
theorem dMO_append_40 : decode prog_7_method_11_code 40 = .ok (.aload_n 0, 1) := by decide +kernel
theorem dMO_append_41 : decode prog_7_method_11_code 41 = .ok (.getfield 75, 3) := by decide +kernel
theorem dMO_append_44 : decode prog_7_method_11_code 44 = .ok (.iload_n 3, 1) := by decide +kernel
theorem dMO_append_45 : decode prog_7_method_11_code 45 = .ok (.bastore, 1) := by decide +kernel
theorem dMO_append_46 : decode prog_7_method_11_code 46 = .ok (.aload_n 0, 1) := by decide +kernel
theorem dMO_append_47 : decode prog_7_method_11_code 47 = .ok (.getfield 19, 3) := by decide +kernel
theorem dMO_append_50 : decode prog_7_method_11_code 50 = .ok (.aload_n 0, 1) := by decide +kernel
theorem dMO_append_51 : decode prog_7_method_11_code 51 = .ok (.getfield 75, 3) := by decide +kernel
theorem dMO_append_54 : decode prog_7_method_11_code 54 = .ok (.aload_n 0, 1) := by decide +kernel
theorem dMO_append_55 : decode prog_7_method_11_code 55 = .ok (.getfield 84, 3) := by decide +kernel
theorem dMO_append_58 : decode prog_7_method_11_code 58 = .ok (.iastore, 1) := by decide +kernel
theorem dMO_append_59 : decode prog_7_method_11_code 59 = .ok (.aload_n 0, 1) := by decide +kernel
theorem dMO_append_60 : decode prog_7_method_11_code 60 = .ok (.getfield 16, 3) := by decide +kernel
theorem dMO_append_63 : decode prog_7_method_11_code 63 = .ok (.aload_n 0, 1) := by decide +kernel
theorem dMO_append_64 : decode prog_7_method_11_code 64 = .ok (.getfield 75, 3) := by decide +kernel
theorem dMO_append_67 : decode prog_7_method_11_code 67 = .ok (.aload_n 0, 1) := by decide +kernel
theorem dMO_append_68 : decode prog_7_method_11_code 68 = .ok (.getfield 26, 3) := by decide +kernel
theorem dMO_append_71 : decode prog_7_method_11_code 71 = .ok (.iload 4, 2) := by decide +kernel
theorem dMO_append_73 : decode prog_7_method_11_code 73 = .ok (.iaload, 1) := by decide +kernel
theorem dMO_append_74 : decode prog_7_method_11_code 74 = .ok (.iastore, 1) := by decide +kernel
theorem dMO_append_75 : decode prog_7_method_11_code 75 = .ok (.aload_n 0, 1) := by decide +kernel
theorem dMO_append_76 : decode prog_7_method_11_code 76 = .ok (.getfield 26, 3) := by decide +kernel
theorem dMO_append_79 : decode prog_7_method_11_code 79 = .ok (.iload 4, 2) := by decide +kernel
theorem dMO_append_81 : decode prog_7_method_11_code 81 = .ok (.aload_n 0, 1) := by decide +kernel
theorem dMO_append_82 : decode prog_7_method_11_code 82 = .ok (.getfield 75, 3) := by decide +kernel
theorem dMO_append_85 : decode prog_7_method_11_code 85 = .ok (.iastore, 1) := by decide +kernel
theorem dMO_append_86 : decode prog_7_method_11_code 86 = .ok (.aload_n 0, 1) := by decide +kernel
theorem dMO_append_87 : decode prog_7_method_11_code 87 = .ok (.dup, 1) := by decide +kernel
theorem dMO_append_88 : decode prog_7_method_11_code 88 = .ok (.getfield 75, 3) := by decide +kernel
theorem dMO_append_91 : decode prog_7_method_11_code 91 = .ok (.iconst 1, 1) := by decide +kernel
theorem dMO_append_92 : decode prog_7_method_11_code 92 = .ok (.iadd, 1) := by decide +kernel
theorem dMO_append_93 : decode prog_7_method_11_code 93 = .ok (.putfield 75, 3) := by decide +kernel
theorem dMO_append_96 : decode prog_7_method_11_code 96 = .ok (.iconst 1, 1) := by decide +kernel
theorem dMO_append_97 : decode prog_7_method_11_code 97 = .ok (.ireturn, 1) := by decide +kernel
theorem dMO_set_0 : decode prog_7_method_12_code 0 = .ok (.iload_n 2, 1) := by decide +kernel
theorem dMO_set_1 : decode prog_7_method_12_code 1 = .ok (.ifCond .lt (41), 3) := by decide +kernel
theorem dMO_set_4 : decode prog_7_method_12_code 4 = .ok (.iload_n 2, 1) := by decide +kernel
theorem dMO_set_5 : decode prog_7_method_12_code 5 = .ok (.aload_n 0, 1) := by decide +kernel
theorem dMO_set_6 : decode prog_7_method_12_code 6 = .ok (.getfield 72, 3) := by decide +kernel
theorem dMO_set_9 : decode prog_7_method_12_code 9 = .ok (.if_icmp .lt (33), 3) := by decide +kernel
theorem dMO_set_12 : decode prog_7_method_12_code 12 = .ok (.aload_n 0, 1) := by decide +kernel
theorem dMO_set_13 : decode prog_7_method_12_code 13 = .ok (.getfield 19, 3) := by decide +kernel
theorem dMO_set_16 : decode prog_7_method_12_code 16 = .ok (.iload_n 2, 1) := by decide +kernel
theorem dMO_set_17 : decode prog_7_method_12_code 17 = .ok (.iaload, 1) := by decide +kernel
theorem dMO_set_18 : decode prog_7_method_12_code 18 = .ok (.aload_n 0, 1) := by decide +kernel
theorem dMO_set_19 : decode prog_7_method_12_code 19 = .ok (.getfield 84, 3) := by decide +kernel
theorem dMO_set_22 : decode prog_7_method_12_code 22 = .ok (.if_icmp .ne (20), 3) := by decide +kernel
theorem dMO_set_25 : decode prog_7_method_12_code 25 = .ok (.aload_n 0, 1) := by decide +kernel
theorem dMO_set_26 : decode prog_7_method_12_code 26 = .ok (.getfield 13, 3) := by decide +kernel
theorem dMO_set_29 : decode prog_7_method_12_code 29 = .ok (.iload_n 2, 1) := by decide +kernel
theorem dMO_set_30 : decode prog_7_method_12_code 30 = .ok (.iload_n 3, 1) := by decide +kernel
theorem dMO_set_31 : decode prog_7_method_12_code 31 = .ok (.iastore, 1) := by decide +kernel
theorem dMO_set_32 : decode prog_7_method_12_code 32 = .ok (.aload_n 0, 1) := by decide +kernel
theorem dMO_set_33 : decode prog_7_method_12_code 33 = .ok (.getfield 22, 3) := by decide +kernel
theorem dMO_set_36 : decode prog_7_method_12_code 36 = .ok (.iload_n 2, 1) := by decide +kernel
theorem dMO_set_37 : decode prog_7_method_12_code 37 = .ok (.iload 4, 2) := by decide +kernel
theorem dMO_set_39 : decode prog_7_method_12_code 39 = .ok (.bastore, 1) := by decide +kernel
theorem dMO_set_40 : decode prog_7_method_12_code 40 = .ok (.iconst 1, 1) := by decide +kernel
theorem dMO_set_41 : decode prog_7_method_12_code 41 = .ok (.ireturn, 1) := by decide +kernel
theorem dMO_set_42 : decode prog_7_method_12_code 42 = .ok (.aload_n 0, 1) := by decide +kernel
theorem dMO_set_43 : decode prog_7_method_12_code 43 = .ok (.getfield 75, 3) := by decide +kernel
theorem dMO_set_46 : decode prog_7_method_12_code 46 = .ok (.sipush 400, 3) := by decide +kernel
theorem dMO_set_49 : decode prog_7_method_12_code 49 = .ok (.if_icmp .ne (6), 3) := by decide +kernel
theorem dMO_set_52 : decode prog_7_method_12_code 52 = .ok (.bipush (-2), 2) := by decide +kernel
theorem dMO_set_54 : decode prog_7_method_12_code 54 = .ok (.ireturn, 1) := by decide +kernel
theorem dMO_set_55 : decode prog_7_method_12_code 55 = .ok (.aload_n 0, 1) := by decide +kernel
theorem dMO_set_56 : decode prog_7_method_12_code 56 = .ok (.iload_n 1, 1) := by decide +kernel
theorem dMO_set_57 : decode prog_7_method_12_code 57 = .ok (.iload_n 3, 1) := by decide +kernel
theorem dMO_set_58 : decode prog_7_method_12_code 58 = .ok (.iload 4, 2) := by decide +kernel
theorem dMO_set_60 : decode prog_7_method_12_code 60 = .ok (.invokevirtual 118, 3) := by decide +kernel
theorem dMO_set_63 : decode prog_7_method_12_code 63 = .ok (.ifCond .eq (7), 3) := by decide +kernel
theorem dMO_set_66 : decode prog_7_method_12_code 66 = .ok (.iconst 2, 1) := by decide +kernel
theorem dMO_set_67 : decode prog_7_method_12_code 67 = .ok (.goto (5), 3) := by decide +kernel
theorem dMO_set_70 : decode prog_7_method_12_code 70 = .ok (.bipush (-9), 2) := by decide +kernel
theorem dMO_set_72 : decode prog_7_method_12_code 72 = .ok (.ireturn, 1) := by decide +kernel
theorem dMO_put_0 : decode prog_7_method_13_code 0 = .ok (.aload_n 0, 1) := by decide +kernel
theorem dMO_put_1 : decode prog_7_method_13_code 1 = .ok (.getfield 100, 3) := by decide +kernel
theorem dMO_put_4 : decode prog_7_method_13_code 4 = .ok (.ifCond .eq (6), 3) := by decide +kernel
theorem dMO_put_7 : decode prog_7_method_13_code 7 = .ok (.bipush (-9), 2) := by decide +kernel
theorem dMO_put_9 : decode prog_7_method_13_code 9 = .ok (.ireturn, 1) := by decide +kernel
theorem dMO_put_10 : decode prog_7_method_13_code 10 = .ok (.iload_n 1, 1) := by decide +kernel
theorem dMO_put_11 : decode prog_7_method_13_code 11 = .ok (.invokestatic 122, 3) := by decide +kernel
theorem dMO_put_14 : decode prog_7_method_13_code 14 = .ok (.ifCond .ne (5), 3) := by decide +kernel
theorem dMO_put_17 : decode prog_7_method_13_code 17 = .ok (.iconst (-1), 1) := by decide +kernel
theorem dMO_put_18 : decode prog_7_method_13_code 18 = .ok (.ireturn, 1) := by decide +kernel
theorem dMO_put_19 : decode prog_7_method_13_code 19 = .ok (.aload_n 0, 1) := by decide +kernel
theorem dMO_put_20 : decode prog_7_method_13_code 20 = .ok (.iload_n 1, 1) := by decide +kernel
theorem dMO_put_21 : decode prog_7_method_13_code 21 = .ok (.iconst 1, 1) := by decide +kernel
theorem dMO_put_22 : decode prog_7_method_13_code 22 = .ok (.invokevirtual 125, 3) := by decide +kernel
theorem dMO_put_25 : decode prog_7_method_13_code 25 = .ok (.istore_n 3, 1) := by decide +kernel
theorem dMO_put_26 : decode prog_7_method_13_code 26 = .ok (.aload_n 0, 1) := by decide +kernel
theorem dMO_put_27 : decode prog_7_method_13_code 27 = .ok (.iload_n 1, 1) := by decide +kernel
theorem dMO_put_28 : decode prog_7_method_13_code 28 = .ok (.iload_n 3, 1) := by decide +kernel
theorem dMO_put_29 : decode prog_7_method_13_code 29 = .ok (.iload_n 2, 1) := by decide +kernel
theorem dMO_put_30 : decode prog_7_method_13_code 30 = .ok (.iconst 0, 1) := by decide +kernel
theorem dMO_put_31 : decode prog_7_method_13_code 31 = .ok (.invokevirtual 129, 3) := by decide +kernel
theorem dMO_put_34 : decode prog_7_method_13_code 34 = .ok (.ireturn, 1) := by decide +kernel
theorem dMO_add_0 : decode prog_7_method_14_code 0 = .ok (.aload_n 0, 1) := by decide +kernel
theorem dMO_add_1 : decode prog_7_method_14_code 1 = .ok (.getfield 100, 3) := by decide +kernel
theorem dMO_add_4 : decode prog_7_method_14_code 4 = .ok (.ifCond .eq (6), 3) := by decide +kernel
theorem dMO_add_7 : decode prog_7_method_14_code 7 = .ok (.bipush (-9), 2) := by decide +kernel
theorem dMO_add_9 : decode prog_7_method_14_code 9 = .ok (.ireturn, 1) := by decide +kernel
theorem dMO_add_10 : decode prog_7_method_14_code 10 = .ok (.iload_n 1, 1) := by decide +kernel
theorem dMO_add_11 : decode prog_7_method_14_code 11 = .ok (.invokestatic 122, 3) := by decide +kernel
theorem dMO_add_14 : decode prog_7_method_14_code 14 = .ok (.ifCond .ne (5), 3) := by decide +kernel
theorem dMO_add_17 : decode prog_7_method_14_code 17 = .ok (.iconst (-1), 1) := by decide +kernel
theorem dMO_add_18 : decode prog_7_method_14_code 18 = .ok (.ireturn, 1) := by decide +kernel
theorem dMO_add_19 : decode prog_7_method_14_code 19 = .ok (.aload_n 0, 1) := by decide +kernel
theorem dMO_add_20 : decode prog_7_method_14_code 20 = .ok (.iload_n 1, 1) := by decide +kernel
theorem dMO_add_21 : decode prog_7_method_14_code 21 = .ok (.iconst 1, 1) := by decide +kernel
theorem dMO_add_22 : decode prog_7_method_14_code 22 = .ok (.invokevirtual 125, 3) := by decide +kernel
theorem dMO_add_25 : decode prog_7_method_14_code 25 = .ok (.istore_n 3, 1) := by decide +kernel
theorem dMO_add_26 : decode prog_7_method_14_code 26 = .ok (.iload_n 3, 1) := by decide +kernel
theorem dMO_add_27 : decode prog_7_method_14_code 27 = .ok (.ifCond .lt (21), 3) := by decide +kernel
theorem dMO_add_30 : decode prog_7_method_14_code 30 = .ok (.aload_n 0, 1) := by decide +kernel
theorem dMO_add_31 : decode prog_7_method_14_code 31 = .ok (.getfield 22, 3) := by decide +kernel
theorem dMO_add_34 : decode prog_7_method_14_code 34 = .ok (.iload_n 3, 1) := by decide +kernel
theorem dMO_add_35 : decode prog_7_method_14_code 35 = .ok (.baload, 1) := by decide +kernel
theorem dMO_add_36 : decode prog_7_method_14_code 36 = .ok (.ifCond .ne (12), 3) := by decide +kernel
theorem dMO_add_39 : decode prog_7_method_14_code 39 = .ok (.aload_n 0, 1) := by decide +kernel
theorem dMO_add_40 : decode prog_7_method_14_code 40 = .ok (.getfield 13, 3) := by decide +kernel
theorem dMO_add_43 : decode prog_7_method_14_code 43 = .ok (.iload_n 3, 1) := by decide +kernel
theorem dMO_add_44 : decode prog_7_method_14_code 44 = .ok (.iaload, 1) := by decide +kernel
theorem dMO_add_45 : decode prog_7_method_14_code 45 = .ok (.goto (4), 3) := by decide +kernel
theorem dMO_add_48 : decode prog_7_method_14_code 48 = .ok (.iconst 0, 1) := by decide +kernel
theorem dMO_add_49 : decode prog_7_method_14_code 49 = .ok (.istore 4, 2) := by decide +kernel
theorem dMO_add_51 : decode prog_7_method_14_code 51 = .ok (.aload_n 0, 1) := by decide +kernel
theorem dMO_add_52 : decode prog_7_method_14_code 52 = .ok (.iload_n 1, 1) := by decide +kernel
theorem dMO_add_53 : decode prog_7_method_14_code 53 = .ok (.iload_n 3, 1) := by decide +kernel
theorem dMO_add_54 : decode prog_7_method_14_code 54 = .ok (.iload 4, 2) := by decide +kernel
theorem dMO_add_56 : decode prog_7_method_14_code 56 = .ok (.iload_n 2, 1) := by decide +kernel
theorem dMO_add_57 : decode prog_7_method_14_code 57 = .ok (.iadd, 1) := by decide +kernel
theorem dMO_add_58 : decode prog_7_method_14_code 58 = .ok (.iconst 0, 1) := by decide +kernel
theorem dMO_add_59 : decode prog_7_method_14_code 59 = .ok (.invokevirtual 129, 3) := by decide +kernel
theorem dMO_add_62 : decode prog_7_method_14_code 62 = .ok (.ireturn, 1) := by decide +kernel
theorem dMO_delete_0 : decode prog_7_method_15_code 0 = .ok (.aload_n 0, 1) := by decide +kernel
theorem dMO_delete_1 : decode prog_7_method_15_code 1 = .ok (.getfield 100, 3) := by decide +kernel
theorem dMO_delete_4 : decode prog_7_method_15_code 4 = .ok (.ifCond .eq (6), 3) := by decide +kernel
theorem dMO_delete_7 : decode prog_7_method_15_code 7 = .ok (.bipush (-9), 2) := by decide +kernel
theorem dMO_delete_9 : decode prog_7_method_15_code 9 = .ok (.ireturn, 1) := by decide +kernel
theorem dMO_delete_10 : decode prog_7_method_15_code 10 = .ok (.iload_n 1, 1) := by decide +kernel
theorem dMO_delete_11 : decode prog_7_method_15_code 11 = .ok (.invokestatic 122, 3) := by decide +kernel
theorem dMO_delete_14 : decode prog_7_method_15_code 14 = .ok (.ifCond .ne (5), 3) := by decide +kernel
theorem dMO_delete_17 : decode prog_7_method_15_code 17 = .ok (.iconst (-1), 1) := by decide +kernel
theorem dMO_delete_18 : decode prog_7_method_15_code 18 = .ok (.ireturn, 1) := by decide +kernel
theorem dMO_delete_19 : decode prog_7_method_15_code 19 = .ok (.aload_n 0, 1) := by decide +kernel
theorem dMO_delete_20 : decode prog_7_method_15_code 20 = .ok (.iload_n 1, 1) := by decide +kernel
theorem dMO_delete_21 : decode prog_7_method_15_code 21 = .ok (.iconst 1, 1) := by decide +kernel
theorem dMO_delete_22 : decode prog_7_method_15_code 22 = .ok (.invokevirtual 125, 3) := by decide +kernel
theorem dMO_delete_25 : decode prog_7_method_15_code 25 = .ok (.istore_n 2, 1) := by decide +kernel
theorem dMO_delete_26 : decode prog_7_method_15_code 26 = .ok (.iload_n 2, 1) := by decide +kernel
theorem dMO_delete_27 : decode prog_7_method_15_code 27 = .ok (.ifCond .lt (12), 3) := by decide +kernel
theorem dMO_delete_30 : decode prog_7_method_15_code 30 = .ok (.aload_n 0, 1) := by decide +kernel
theorem dMO_delete_31 : decode prog_7_method_15_code 31 = .ok (.getfield 22, 3) := by decide +kernel
theorem dMO_delete_34 : decode prog_7_method_15_code 34 = .ok (.iload_n 2, 1) := by decide +kernel
theorem dMO_delete_35 : decode prog_7_method_15_code 35 = .ok (.baload, 1) := by decide +kernel
theorem dMO_delete_36 : decode prog_7_method_15_code 36 = .ok (.ifCond .eq (7), 3) := by decide +kernel
theorem dMO_delete_39 : decode prog_7_method_15_code 39 = .ok (.iconst 0, 1) := by decide +kernel
theorem dMO_delete_40 : decode prog_7_method_15_code 40 = .ok (.goto (11), 3) := by decide +kernel
theorem dMO_delete_43 : decode prog_7_method_15_code 43 = .ok (.aload_n 0, 1) := by decide +kernel
theorem dMO_delete_44 : decode prog_7_method_15_code 44 = .ok (.iload_n 1, 1) := by decide +kernel
theorem dMO_delete_45 : decode prog_7_method_15_code 45 = .ok (.iload_n 2, 1) := by decide +kernel
theorem dMO_delete_46 : decode prog_7_method_15_code 46 = .ok (.iconst 0, 1) := by decide +kernel
theorem dMO_delete_47 : decode prog_7_method_15_code 47 = .ok (.iconst 1, 1) := by decide +kernel
theorem dMO_delete_48 : decode prog_7_method_15_code 48 = .ok (.invokevirtual 129, 3) := by decide +kernel
theorem dMO_delete_51 : decode prog_7_method_15_code 51 = .ok (.ireturn, 1) := by decide +kernel
theorem dMO_read_0 : decode prog_7_method_16_code 0 = .ok (.aload_n 0, 1) := by decide +kernel
theorem dMO_read_1 : decode prog_7_method_16_code 1 = .ok (.getfield 100, 3) := by decide +kernel
theorem dMO_read_4 : decode prog_7_method_16_code 4 = .ok (.ifCond .eq (6), 3) := by decide +kernel
theorem dMO_read_7 : decode prog_7_method_16_code 7 = .ok (.bipush (-9), 2) := by decide +kernel
theorem dMO_read_9 : decode prog_7_method_16_code 9 = .ok (.ireturn, 1) := by decide +kernel
theorem dMO_read_10 : decode prog_7_method_16_code 10 = .ok (.iload_n 1, 1) := by decide +kernel
theorem dMO_read_11 : decode prog_7_method_16_code 11 = .ok (.invokestatic 122, 3) := by decide +kernel
theorem dMO_read_14 : decode prog_7_method_16_code 14 = .ok (.ifCond .ne (5), 3) := by decide +kernel
theorem dMO_read_17 : decode prog_7_method_16_code 17 = .ok (.iconst (-1), 1) := by decide +kernel
theorem dMO_read_18 : decode prog_7_method_16_code 18 = .ok (.ireturn, 1) := by decide +kernel
theorem dMO_read_19 : decode prog_7_method_16_code 19 = .ok (.aload_n 0, 1) := by decide +kernel
theorem dMO_read_20 : decode prog_7_method_16_code 20 = .ok (.iload_n 1, 1) := by decide +kernel
theorem dMO_read_21 : decode prog_7_method_16_code 21 = .ok (.iconst 1, 1) := by decide +kernel
theorem dMO_read_22 : decode prog_7_method_16_code 22 = .ok (.invokevirtual 125, 3) := by decide +kernel
theorem dMO_read_25 : decode prog_7_method_16_code 25 = .ok (.istore_n 2, 1) := by decide +kernel
theorem dMO_read_26 : decode prog_7_method_16_code 26 = .ok (.iload_n 2, 1) := by decide +kernel
theorem dMO_read_27 : decode prog_7_method_16_code 27 = .ok (.ifCond .lt (12), 3) := by decide +kernel
theorem dMO_read_30 : decode prog_7_method_16_code 30 = .ok (.aload_n 0, 1) := by decide +kernel
theorem dMO_read_31 : decode prog_7_method_16_code 31 = .ok (.getfield 22, 3) := by decide +kernel
theorem dMO_read_34 : decode prog_7_method_16_code 34 = .ok (.iload_n 2, 1) := by decide +kernel
theorem dMO_read_35 : decode prog_7_method_16_code 35 = .ok (.baload, 1) := by decide +kernel
theorem dMO_read_36 : decode prog_7_method_16_code 36 = .ok (.ifCond .eq (5), 3) := by decide +kernel
theorem dMO_read_39 : decode prog_7_method_16_code 39 = .ok (.iconst 0, 1) := by decide +kernel
theorem dMO_read_40 : decode prog_7_method_16_code 40 = .ok (.ireturn, 1) := by decide +kernel
theorem dMO_read_41 : decode prog_7_method_16_code 41 = .ok (.aload_n 0, 1) := by decide +kernel
theorem dMO_read_42 : decode prog_7_method_16_code 42 = .ok (.aload_n 0, 1) := by decide +kernel
theorem dMO_read_43 : decode prog_7_method_16_code 43 = .ok (.getfield 13, 3) := by decide +kernel
theorem dMO_read_46 : decode prog_7_method_16_code 46 = .ok (.iload_n 2, 1) := by decide +kernel
theorem dMO_read_47 : decode prog_7_method_16_code 47 = .ok (.iaload, 1) := by decide +kernel
theorem dMO_read_48 : decode prog_7_method_16_code 48 = .ok (.putfield 133, 3) := by decide +kernel
theorem dMO_read_51 : decode prog_7_method_16_code 51 = .ok (.iload_n 2, 1) := by decide +kernel
theorem dMO_read_52 : decode prog_7_method_16_code 52 = .ok (.aload_n 0, 1) := by decide +kernel
theorem dMO_read_53 : decode prog_7_method_16_code 53 = .ok (.getfield 72, 3) := by decide +kernel
theorem dMO_read_56 : decode prog_7_method_16_code 56 = .ok (.if_icmp .lt (7), 3) := by decide +kernel
theorem dMO_read_59 : decode prog_7_method_16_code 59 = .ok (.iconst 1, 1) := by decide +kernel
theorem dMO_read_60 : decode prog_7_method_16_code 60 = .ok (.goto (16), 3) := by decide +kernel
theorem dMO_read_63 : decode prog_7_method_16_code 63 = .ok (.iload_n 2, 1) := by decide +kernel
theorem dMO_read_64 : decode prog_7_method_16_code 64 = .ok (.aload_n 0, 1) := by decide +kernel
theorem dMO_read_65 : decode prog_7_method_16_code 65 = .ok (.getfield 66, 3) := by decide +kernel
theorem dMO_read_68 : decode prog_7_method_16_code 68 = .ok (.if_icmp .lt (7), 3) := by decide +kernel
theorem dMO_read_71 : decode prog_7_method_16_code 71 = .ok (.iconst 2, 1) := by decide +kernel
theorem dMO_read_72 : decode prog_7_method_16_code 72 = .ok (.goto (4), 3) := by decide +kernel
theorem dMO_read_75 : decode prog_7_method_16_code 75 = .ok (.iconst 3, 1) := by decide +kernel
theorem dMO_read_76 : decode prog_7_method_16_code 76 = .ok (.ireturn, 1) := by decide +kernel
theorem dMO_value_0 : decode prog_7_method_17_code 0 = .ok (.aload_n 0, 1) := by decide +kernel
theorem dMO_value_1 : decode prog_7_method_17_code 1 = .ok (.getfield 133, 3) := by decide +kernel
theorem dMO_value_4 : decode prog_7_method_17_code 4 = .ok (.ireturn, 1) := by decide +kernel
theorem dMO_checkpoint_0 : decode prog_7_method_18_code 0 = .ok (.aload_n 0, 1) := by decide +kernel
theorem dMO_checkpoint_1 : decode prog_7_method_18_code 1 = .ok (.getfield 100, 3) := by decide +kernel
theorem dMO_checkpoint_4 : decode prog_7_method_18_code 4 = .ok (.ifCond .eq (6), 3) := by decide +kernel
theorem dMO_checkpoint_7 : decode prog_7_method_18_code 7 = .ok (.bipush (-9), 2) := by decide +kernel
theorem dMO_checkpoint_9 : decode prog_7_method_18_code 9 = .ok (.ireturn, 1) := by decide +kernel
theorem dMO_checkpoint_10 : decode prog_7_method_18_code 10 = .ok (.aload_n 0, 1) := by decide +kernel
theorem dMO_checkpoint_11 : decode prog_7_method_18_code 11 = .ok (.getfield 136, 3) := by decide +kernel
theorem dMO_checkpoint_14 : decode prog_7_method_18_code 14 = .ok (.ifCond .le (6), 3) := by decide +kernel
