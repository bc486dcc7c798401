theorem dm_102_16 : decode (kb_ 102) 16 = .ok (.invokevirtual 100, 3) := by decide +kernel
theorem dm_102_19 : decode (kb_ 102) 19 = .ok (.aload_n 1, 1) := by decide +kernel
theorem dm_102_20 : decode (kb_ 102) 20 = .ok (.invokevirtual 64, 3) := by decide +kernel
theorem dm_102_23 : decode (kb_ 102) 23 = .ok (.ireturn, 1) := by decide +kernel
theorem dm_103_0 : decode (kb_ 103) 0 = .ok (.aload_n 0, 1) := by decide +kernel
theorem dm_103_1 : decode (kb_ 103) 1 = .ok (.iload_n 1, 1) := by decide +kernel
theorem dm_103_2 : decode (kb_ 103) 2 = .ok (.invokevirtual 120, 3) := by decide +kernel
theorem dm_103_5 : decode (kb_ 103) 5 = .ok (.ifCond .ne (13), 3) := by decide +kernel
theorem dm_103_8 : decode (kb_ 103) 8 = .ok (.new 106, 3) := by decide +kernel
theorem dm_103_11 : decode (kb_ 103) 11 = .ok (.dup, 1) := by decide +kernel
theorem dm_103_12 : decode (kb_ 103) 12 = .ok (.ldc 145, 2) := by decide +kernel
theorem dm_103_14 : decode (kb_ 103) 14 = .ok (.invokespecial 110, 3) := by decide +kernel
theorem dm_103_17 : decode (kb_ 103) 17 = .ok (.athrow, 1) := by decide +kernel
theorem dm_103_18 : decode (kb_ 103) 18 = .ok (.aload_n 0, 1) := by decide +kernel
theorem dm_103_19 : decode (kb_ 103) 19 = .ok (.getfield 164, 3) := by decide +kernel
theorem dm_103_22 : decode (kb_ 103) 22 = .ok (.ifCond .ne (13), 3) := by decide +kernel
theorem dm_103_25 : decode (kb_ 103) 25 = .ok (.new 72, 3) := by decide +kernel
theorem dm_103_28 : decode (kb_ 103) 28 = .ok (.dup, 1) := by decide +kernel
theorem dm_103_29 : decode (kb_ 103) 29 = .ok (.ldc 173, 2) := by decide +kernel
theorem dm_103_31 : decode (kb_ 103) 31 = .ok (.invokespecial 76, 3) := by decide +kernel
theorem dm_103_34 : decode (kb_ 103) 34 = .ok (.athrow, 1) := by decide +kernel
theorem dm_103_35 : decode (kb_ 103) 35 = .ok (.aload_n 0, 1) := by decide +kernel
theorem dm_103_36 : decode (kb_ 103) 36 = .ok (.getfield 57, 3) := by decide +kernel
theorem dm_103_39 : decode (kb_ 103) 39 = .ok (.iload_n 1, 1) := by decide +kernel
theorem dm_103_40 : decode (kb_ 103) 40 = .ok (.invokevirtual 178, 3) := by decide +kernel
theorem dm_103_43 : decode (kb_ 103) 43 = .ok (.ifCond .ne (13), 3) := by decide +kernel
theorem dm_103_46 : decode (kb_ 103) 46 = .ok (.new 106, 3) := by decide +kernel
theorem dm_103_49 : decode (kb_ 103) 49 = .ok (.dup, 1) := by decide +kernel
theorem dm_103_50 : decode (kb_ 103) 50 = .ok (.ldc 181, 2) := by decide +kernel
theorem dm_103_52 : decode (kb_ 103) 52 = .ok (.invokespecial 110, 3) := by decide +kernel
theorem dm_103_55 : decode (kb_ 103) 55 = .ok (.athrow, 1) := by decide +kernel
theorem dm_103_56 : decode (kb_ 103) 56 = .ok (.aload_n 0, 1) := by decide +kernel
theorem dm_103_57 : decode (kb_ 103) 57 = .ok (.getfield 57, 3) := by decide +kernel
theorem dm_103_60 : decode (kb_ 103) 60 = .ok (.iload_n 1, 1) := by decide +kernel
theorem dm_103_61 : decode (kb_ 103) 61 = .ok (.invokevirtual 183, 3) := by decide +kernel
theorem dm_103_64 : decode (kb_ 103) 64 = .ok (.istore_n 2, 1) := by decide +kernel
theorem dm_103_65 : decode (kb_ 103) 65 = .ok (.iload_n 2, 1) := by decide +kernel
theorem dm_103_66 : decode (kb_ 103) 66 = .ok (.ifCond .ne (7), 3) := by decide +kernel
theorem dm_103_69 : decode (kb_ 103) 69 = .ok (.iconst (-1), 1) := by decide +kernel
theorem dm_103_70 : decode (kb_ 103) 70 = .ok (.goto (4), 3) := by decide +kernel
theorem dm_103_73 : decode (kb_ 103) 73 = .ok (.iload_n 2, 1) := by decide +kernel
theorem dm_103_74 : decode (kb_ 103) 74 = .ok (.ireturn, 1) := by decide +kernel
theorem dm_104_0 : decode (kb_ 104) 0 = .ok (.aload_n 0, 1) := by decide +kernel
theorem dm_104_1 : decode (kb_ 104) 1 = .ok (.iload_n 1, 1) := by decide +kernel
theorem dm_104_2 : decode (kb_ 104) 2 = .ok (.invokevirtual 120, 3) := by decide +kernel
theorem dm_104_5 : decode (kb_ 104) 5 = .ok (.ifCond .eq (23), 3) := by decide +kernel
theorem dm_104_8 : decode (kb_ 104) 8 = .ok (.iload_n 2, 1) := by decide +kernel
theorem dm_104_9 : decode (kb_ 104) 9 = .ok (.iconst (-1), 1) := by decide +kernel
theorem dm_104_10 : decode (kb_ 104) 10 = .ok (.if_icmp .lt (18), 3) := by decide +kernel
theorem dm_104_13 : decode (kb_ 104) 13 = .ok (.iload_n 3, 1) := by decide +kernel
theorem dm_104_14 : decode (kb_ 104) 14 = .ok (.iconst (-1), 1) := by decide +kernel
theorem dm_104_15 : decode (kb_ 104) 15 = .ok (.if_icmp .lt (13), 3) := by decide +kernel
theorem dm_104_18 : decode (kb_ 104) 18 = .ok (.iload_n 2, 1) := by decide +kernel
theorem dm_104_19 : decode (kb_ 104) 19 = .ok (.iconst (-1), 1) := by decide +kernel
theorem dm_104_20 : decode (kb_ 104) 20 = .ok (.if_icmp .ne (18), 3) := by decide +kernel
theorem dm_104_23 : decode (kb_ 104) 23 = .ok (.iload_n 3, 1) := by decide +kernel
theorem dm_104_24 : decode (kb_ 104) 24 = .ok (.iconst (-1), 1) := by decide +kernel
theorem dm_104_25 : decode (kb_ 104) 25 = .ok (.if_icmp .eq (13), 3) := by decide +kernel
theorem dm_104_28 : decode (kb_ 104) 28 = .ok (.new 106, 3) := by decide +kernel
theorem dm_104_31 : decode (kb_ 104) 31 = .ok (.dup, 1) := by decide +kernel
theorem dm_104_32 : decode (kb_ 104) 32 = .ok (.ldc 194, 2) := by decide +kernel
theorem dm_104_34 : decode (kb_ 104) 34 = .ok (.invokespecial 110, 3) := by decide +kernel
theorem dm_104_37 : decode (kb_ 104) 37 = .ok (.athrow, 1) := by decide +kernel
theorem dm_104_38 : decode (kb_ 104) 38 = .ok (.aload_n 0, 1) := by decide +kernel
theorem dm_104_39 : decode (kb_ 104) 39 = .ok (.getfield 164, 3) := by decide +kernel
theorem dm_104_42 : decode (kb_ 104) 42 = .ok (.ifCond .ne (13), 3) := by decide +kernel
theorem dm_104_45 : decode (kb_ 104) 45 = .ok (.new 72, 3) := by decide +kernel
theorem dm_104_48 : decode (kb_ 104) 48 = .ok (.dup, 1) := by decide +kernel
theorem dm_104_49 : decode (kb_ 104) 49 = .ok (.ldc 173, 2) := by decide +kernel
theorem dm_104_51 : decode (kb_ 104) 51 = .ok (.invokespecial 76, 3) := by decide +kernel
theorem dm_104_54 : decode (kb_ 104) 54 = .ok (.athrow, 1) := by decide +kernel
theorem dm_104_55 : decode (kb_ 104) 55 = .ok (.aload_n 0, 1) := by decide +kernel
theorem dm_104_56 : decode (kb_ 104) 56 = .ok (.getfield 57, 3) := by decide +kernel
theorem dm_104_59 : decode (kb_ 104) 59 = .ok (.iload_n 1, 1) := by decide +kernel
theorem dm_104_60 : decode (kb_ 104) 60 = .ok (.iload_n 2, 1) := by decide +kernel
theorem dm_104_61 : decode (kb_ 104) 61 = .ok (.iload_n 3, 1) := by decide +kernel
theorem dm_104_62 : decode (kb_ 104) 62 = .ok (.invokevirtual 196, 3) := by decide +kernel
theorem dm_104_65 : decode (kb_ 104) 65 = .ok (.ifCond .ne (13), 3) := by decide +kernel
theorem dm_104_68 : decode (kb_ 104) 68 = .ok (.new 106, 3) := by decide +kernel
theorem dm_104_71 : decode (kb_ 104) 71 = .ok (.dup, 1) := by decide +kernel
theorem dm_104_72 : decode (kb_ 104) 72 = .ok (.ldc 200, 2) := by decide +kernel
theorem dm_104_74 : decode (kb_ 104) 74 = .ok (.invokespecial 110, 3) := by decide +kernel
theorem dm_104_77 : decode (kb_ 104) 77 = .ok (.athrow, 1) := by decide +kernel
theorem dm_104_78 : decode (kb_ 104) 78 = .ok (.aload_n 0, 1) := by decide +kernel
theorem dm_104_79 : decode (kb_ 104) 79 = .ok (.getfield 57, 3) := by decide +kernel
theorem dm_104_82 : decode (kb_ 104) 82 = .ok (.iload_n 1, 1) := by decide +kernel
theorem dm_104_83 : decode (kb_ 104) 83 = .ok (.invokevirtual 202, 3) := by decide +kernel
theorem dm_104_86 : decode (kb_ 104) 86 = .ok (.astore 4, 2) := by decide +kernel
theorem dm_104_88 : decode (kb_ 104) 88 = .ok (.iload_n 2, 1) := by decide +kernel
theorem dm_104_89 : decode (kb_ 104) 89 = .ok (.iconst (-1), 1) := by decide +kernel
theorem dm_104_90 : decode (kb_ 104) 90 = .ok (.if_icmp .ne (9), 3) := by decide +kernel
theorem dm_104_93 : decode (kb_ 104) 93 = .ok (.aload 4, 2) := by decide +kernel
theorem dm_104_95 : decode (kb_ 104) 95 = .ok (.invokevirtual 206, 3) := by decide +kernel
theorem dm_104_98 : decode (kb_ 104) 98 = .ok (.ireturn, 1) := by decide +kernel
theorem dm_104_99 : decode (kb_ 104) 99 = .ok (.iload_n 3, 1) := by decide +kernel
theorem dm_104_100 : decode (kb_ 104) 100 = .ok (.iconst (-1), 1) := by decide +kernel
theorem dm_104_101 : decode (kb_ 104) 101 = .ok (.if_icmp .ne (12), 3) := by decide +kernel
theorem dm_104_104 : decode (kb_ 104) 104 = .ok (.aload 4, 2) := by decide +kernel
theorem dm_104_106 : decode (kb_ 104) 106 = .ok (.iload_n 2, 1) := by decide +kernel
theorem dm_104_107 : decode (kb_ 104) 107 = .ok (.invokevirtual 211, 3) := by decide +kernel
theorem dm_104_110 : decode (kb_ 104) 110 = .ok (.goto (10), 3) := by decide +kernel
theorem dm_104_113 : decode (kb_ 104) 113 = .ok (.aload 4, 2) := by decide +kernel
theorem dm_104_115 : decode (kb_ 104) 115 = .ok (.iload_n 2, 1) := by decide +kernel
theorem dm_104_116 : decode (kb_ 104) 116 = .ok (.iload_n 3, 1) := by decide +kernel
theorem dm_104_117 : decode (kb_ 104) 117 = .ok (.invokevirtual 214, 3) := by decide +kernel
theorem dm_104_120 : decode (kb_ 104) 120 = .ok (.ireturn, 1) := by decide +kernel
theorem dm_105_0 : decode (kb_ 105) 0 = .ok (.aload_n 0, 1) := by decide +kernel
theorem dm_105_1 : decode (kb_ 105) 1 = .ok (.getfield 27, 3) := by decide +kernel
theorem dm_105_4 : decode (kb_ 105) 4 = .ok (.invokevirtual 64, 3) := by decide +kernel
theorem dm_105_7 : decode (kb_ 105) 7 = .ok (.iload_n 1, 1) := by decide +kernel
theorem dm_105_8 : decode (kb_ 105) 8 = .ok (.invokestatic 68, 3) := by decide +kernel
theorem dm_105_11 : decode (kb_ 105) 11 = .ok (.iadd, 1) := by decide +kernel
theorem dm_105_12 : decode (kb_ 105) 12 = .ok (.iload_n 2, 1) := by decide +kernel
theorem dm_105_13 : decode (kb_ 105) 13 = .ok (.invokestatic 68, 3) := by decide +kernel
theorem dm_105_16 : decode (kb_ 105) 16 = .ok (.iadd, 1) := by decide +kernel
theorem dm_105_17 : decode (kb_ 105) 17 = .ok (.bipush (32), 2) := by decide +kernel
theorem dm_105_19 : decode (kb_ 105) 19 = .ok (.if_icmp .le (13), 3) := by decide +kernel
theorem dm_105_22 : decode (kb_ 105) 22 = .ok (.new 72, 3) := by decide +kernel
theorem dm_105_25 : decode (kb_ 105) 25 = .ok (.dup, 1) := by decide +kernel
theorem dm_105_26 : decode (kb_ 105) 26 = .ok (.ldc 74, 2) := by decide +kernel
theorem dm_105_28 : decode (kb_ 105) 28 = .ok (.invokespecial 76, 3) := by decide +kernel
theorem dm_105_31 : decode (kb_ 105) 31 = .ok (.athrow, 1) := by decide +kernel
theorem dm_105_32 : decode (kb_ 105) 32 = .ok (.iload_n 1, 1) := by decide +kernel
theorem dm_105_33 : decode (kb_ 105) 33 = .ok (.invokestatic 79, 3) := by decide +kernel
theorem dm_105_36 : decode (kb_ 105) 36 = .ok (.ifCond .eq (10), 3) := by decide +kernel
theorem dm_105_39 : decode (kb_ 105) 39 = .ok (.iload_n 2, 1) := by decide +kernel
theorem dm_105_40 : decode (kb_ 105) 40 = .ok (.invokestatic 79, 3) := by decide +kernel
theorem dm_105_43 : decode (kb_ 105) 43 = .ok (.ifCond .ne (13), 3) := by decide +kernel
theorem dm_105_46 : decode (kb_ 105) 46 = .ok (.new 83, 3) := by decide +kernel
theorem dm_105_49 : decode (kb_ 105) 49 = .ok (.dup, 1) := by decide +kernel
theorem dm_105_50 : decode (kb_ 105) 50 = .ok (.ldc 85, 2) := by decide +kernel
theorem dm_105_52 : decode (kb_ 105) 52 = .ok (.invokespecial 87, 3) := by decide +kernel
theorem dm_105_55 : decode (kb_ 105) 55 = .ok (.athrow, 1) := by decide +kernel
theorem dm_105_56 : decode (kb_ 105) 56 = .ok (.aload_n 0, 1) := by decide +kernel
theorem dm_105_57 : decode (kb_ 105) 57 = .ok (.iload_n 1, 1) := by decide +kernel
theorem dm_105_58 : decode (kb_ 105) 58 = .ok (.invokevirtual 88, 3) := by decide +kernel
theorem dm_105_61 : decode (kb_ 105) 61 = .ok (.aload_n 0, 1) := by decide +kernel
theorem dm_105_62 : decode (kb_ 105) 62 = .ok (.iload_n 2, 1) := by decide +kernel
theorem dm_105_63 : decode (kb_ 105) 63 = .ok (.invokevirtual 88, 3) := by decide +kernel
theorem dm_105_66 : decode (kb_ 105) 66 = .ok (.aload_n 0, 1) := by decide +kernel
theorem dm_105_67 : decode (kb_ 105) 67 = .ok (.getfield 27, 3) := by decide +kernel
theorem dm_105_70 : decode (kb_ 105) 70 = .ok (.invokevirtual 64, 3) := by decide +kernel
theorem dm_105_73 : decode (kb_ 105) 73 = .ok (.ireturn, 1) := by decide +kernel
theorem dm_106_0 : decode (kb_ 106) 0 = .ok (.aload_n 0, 1) := by decide +kernel
theorem dm_106_1 : decode (kb_ 106) 1 = .ok (.iload_n 1, 1) := by decide +kernel
theorem dm_106_2 : decode (kb_ 106) 2 = .ok (.invokevirtual 47, 3) := by decide +kernel
theorem dm_106_5 : decode (kb_ 106) 5 = .ok (.istore_n 2, 1) := by decide +kernel
theorem dm_106_6 : decode (kb_ 106) 6 = .ok (.iload_n 1, 1) := by decide +kernel
theorem dm_106_7 : decode (kb_ 106) 7 = .ok (.istore_n 3, 1) := by decide +kernel
theorem dm_106_8 : decode (kb_ 106) 8 = .ok (.iload_n 3, 1) := by decide +kernel
theorem dm_106_9 : decode (kb_ 106) 9 = .ok (.iload_n 2, 1) := by decide +kernel
theorem dm_106_10 : decode (kb_ 106) 10 = .ok (.if_icmp .ge (47), 3) := by decide +kernel
theorem dm_106_13 : decode (kb_ 106) 13 = .ok (.aload_n 0, 1) := by decide +kernel
theorem dm_106_14 : decode (kb_ 106) 14 = .ok (.getfield 24, 3) := by decide +kernel
theorem dm_106_17 : decode (kb_ 106) 17 = .ok (.iload_n 3, 1) := by decide +kernel
theorem dm_106_18 : decode (kb_ 106) 18 = .ok (.invokevirtual 39, 3) := by decide +kernel
theorem dm_106_21 : decode (kb_ 106) 21 = .ok (.bipush (35), 2) := by decide +kernel
theorem dm_106_23 : decode (kb_ 106) 23 = .ok (.if_icmp .ne (28), 3) := by decide +kernel
theorem dm_106_26 : decode (kb_ 106) 26 = .ok (.aload_n 0, 1) := by decide +kernel
theorem dm_106_27 : decode (kb_ 106) 27 = .ok (.aload_n 0, 1) := by decide +kernel
theorem dm_106_28 : decode (kb_ 106) 28 = .ok (.getfield 24, 3) := by decide +kernel
theorem dm_106_31 : decode (kb_ 106) 31 = .ok (.iload_n 3, 1) := by decide +kernel
theorem dm_106_32 : decode (kb_ 106) 32 = .ok (.iconst (1), 1) := by decide +kernel
theorem dm_106_33 : decode (kb_ 106) 33 = .ok (.iadd, 1) := by decide +kernel
theorem dm_106_34 : decode (kb_ 106) 34 = .ok (.invokevirtual 39, 3) := by decide +kernel
theorem dm_106_37 : decode (kb_ 106) 37 = .ok (.bipush (48), 2) := by decide +kernel
theorem dm_106_39 : decode (kb_ 106) 39 = .ok (.isub, 1) := by decide +kernel
theorem dm_106_40 : decode (kb_ 106) 40 = .ok (.invokevirtual 57, 3) := by decide +kernel
theorem dm_106_43 : decode (kb_ 106) 43 = .ok (.invokevirtual 35, 3) := by decide +kernel
theorem dm_106_46 : decode (kb_ 106) 46 = .ok (.ifCond .ne (5), 3) := by decide +kernel
theorem dm_106_49 : decode (kb_ 106) 49 = .ok (.iconst (0), 1) := by decide +kernel
theorem dm_106_50 : decode (kb_ 106) 50 = .ok (.ireturn, 1) := by decide +kernel
theorem dm_106_51 : decode (kb_ 106) 51 = .ok (.iinc 3 (1), 3) := by decide +kernel
theorem dm_106_54 : decode (kb_ 106) 54 = .ok (.goto (-46), 3) := by decide +kernel
theorem dm_106_57 : decode (kb_ 106) 57 = .ok (.iconst (1), 1) := by decide +kernel
theorem dm_106_58 : decode (kb_ 106) 58 = .ok (.ireturn, 1) := by decide +kernel
theorem dm_107_0 : decode (kb_ 107) 0 = .ok (.iload_n 2, 1) := by decide +kernel
theorem dm_107_1 : decode (kb_ 107) 1 = .ok (.bipush (35), 2) := by decide +kernel
theorem dm_107_3 : decode (kb_ 107) 3 = .ok (.if_icmp .ne (15), 3) := by decide +kernel
theorem dm_107_6 : decode (kb_ 107) 6 = .ok (.aload_n 1, 1) := by decide +kernel
theorem dm_107_7 : decode (kb_ 107) 7 = .ok (.aload_n 0, 1) := by decide +kernel
theorem dm_107_8 : decode (kb_ 107) 8 = .ok (.iload_n 3, 1) := by decide +kernel
theorem dm_107_9 : decode (kb_ 107) 9 = .ok (.invokevirtual 57, 3) := by decide +kernel
theorem dm_107_12 : decode (kb_ 107) 12 = .ok (.invokevirtual 61, 3) := by decide +kernel
theorem dm_107_15 : decode (kb_ 107) 15 = .ok (.goto (22), 3) := by decide +kernel
theorem dm_107_18 : decode (kb_ 107) 18 = .ok (.iload_n 3, 1) := by decide +kernel
theorem dm_107_19 : decode (kb_ 107) 19 = .ok (.ifCond .lt (18), 3) := by decide +kernel
theorem dm_107_22 : decode (kb_ 107) 22 = .ok (.iload_n 3, 1) := by decide +kernel
theorem dm_107_23 : decode (kb_ 107) 23 = .ok (.aload 4, 2) := by decide +kernel
theorem dm_107_25 : decode (kb_ 107) 25 = .ok (.arraylength, 1) := by decide +kernel
theorem dm_107_26 : decode (kb_ 107) 26 = .ok (.if_icmp .ge (11), 3) := by decide +kernel
theorem dm_107_29 : decode (kb_ 107) 29 = .ok (.aload_n 1, 1) := by decide +kernel
theorem dm_107_30 : decode (kb_ 107) 30 = .ok (.aload 4, 2) := by decide +kernel
theorem dm_107_32 : decode (kb_ 107) 32 = .ok (.iload_n 3, 1) := by decide +kernel
theorem dm_107_33 : decode (kb_ 107) 33 = .ok (.iaload, 1) := by decide +kernel
theorem dm_107_34 : decode (kb_ 107) 34 = .ok (.invokestatic 65, 3) := by decide +kernel
theorem dm_107_37 : decode (kb_ 107) 37 = .ok (.return_, 1) := by decide +kernel
theorem dm_108_0 : decode (kb_ 108) 0 = .ok (.aload_n 0, 1) := by decide +kernel
theorem dm_108_1 : decode (kb_ 108) 1 = .ok (.getfield 15, 3) := by decide +kernel
theorem dm_108_4 : decode (kb_ 108) 4 = .ok (.aload_n 0, 1) := by decide +kernel
theorem dm_108_5 : decode (kb_ 108) 5 = .ok (.getfield 28, 3) := by decide +kernel
theorem dm_108_8 : decode (kb_ 108) 8 = .ok (.iconst (0), 1) := by decide +kernel
theorem dm_108_9 : decode (kb_ 108) 9 = .ok (.iastore, 1) := by decide +kernel
theorem dm_108_10 : decode (kb_ 108) 10 = .ok (.aload_n 0, 1) := by decide +kernel
theorem dm_108_11 : decode (kb_ 108) 11 = .ok (.getfield 28, 3) := by decide +kernel
theorem dm_108_14 : decode (kb_ 108) 14 = .ok (.iconst (1), 1) := by decide +kernel
theorem dm_108_15 : decode (kb_ 108) 15 = .ok (.isub, 1) := by decide +kernel
theorem dm_108_16 : decode (kb_ 108) 16 = .ok (.istore_n 1, 1) := by decide +kernel
theorem dm_108_17 : decode (kb_ 108) 17 = .ok (.iload_n 1, 1) := by decide +kernel
theorem dm_108_18 : decode (kb_ 108) 18 = .ok (.ifCond .lt (14), 3) := by decide +kernel
theorem dm_108_21 : decode (kb_ 108) 21 = .ok (.aload_n 0, 1) := by decide +kernel
theorem dm_108_22 : decode (kb_ 108) 22 = .ok (.iload_n 1, 1) := by decide +kernel
theorem dm_108_23 : decode (kb_ 108) 23 = .ok (.invokevirtual 31, 3) := by decide +kernel
theorem dm_108_26 : decode (kb_ 108) 26 = .ok (.iinc 1 (-1), 3) := by decide +kernel
theorem dm_108_29 : decode (kb_ 108) 29 = .ok (.goto (-12), 3) := by decide +kernel
theorem dm_108_32 : decode (kb_ 108) 32 = .ok (.return_, 1) := by decide +kernel
theorem dm_109_0 : decode (kb_ 109) 0 = .ok (.aload_n 0, 1) := by decide +kernel
theorem dm_109_1 : decode (kb_ 109) 1 = .ok (.invokespecial 3, 3) := by decide +kernel
theorem dm_109_4 : decode (kb_ 109) 4 = .ok (.aload_n 0, 1) := by decide +kernel
theorem dm_109_5 : decode (kb_ 109) 5 = .ok (.bipush (8), 2) := by decide +kernel
theorem dm_109_7 : decode (kb_ 109) 7 = .ok (.anewarray 9, 3) := by decide +kernel
theorem dm_109_10 : decode (kb_ 109) 10 = .ok (.putfield 11, 3) := by decide +kernel
theorem dm_109_13 : decode (kb_ 109) 13 = .ok (.aload_n 0, 1) := by decide +kernel
theorem dm_109_14 : decode (kb_ 109) 14 = .ok (.bipush (9), 2) := by decide +kernel
theorem dm_109_16 : decode (kb_ 109) 16 = .ok (.newarray .int, 2) := by decide +kernel
theorem dm_109_18 : decode (kb_ 109) 18 = .ok (.putfield 17, 3) := by decide +kernel
theorem dm_109_21 : decode (kb_ 109) 21 = .ok (.aload_n 0, 1) := by decide +kernel
theorem dm_109_22 : decode (kb_ 109) 22 = .ok (.sipush (849), 3) := by decide +kernel
theorem dm_109_25 : decode (kb_ 109) 25 = .ok (.newarray .int, 2) := by decide +kernel
theorem dm_109_27 : decode (kb_ 109) 27 = .ok (.putfield 21, 3) := by decide +kernel
theorem dm_109_30 : decode (kb_ 109) 30 = .ok (.aload_n 0, 1) := by decide +kernel
theorem dm_109_31 : decode (kb_ 109) 31 = .ok (.bipush (8), 2) := by decide +kernel
theorem dm_109_33 : decode (kb_ 109) 33 = .ok (.newarray .int, 2) := by decide +kernel
theorem dm_109_35 : decode (kb_ 109) 35 = .ok (.putfield 24, 3) := by decide +kernel
theorem dm_109_38 : decode (kb_ 109) 38 = .ok (.iconst (0), 1) := by decide +kernel
theorem dm_109_39 : decode (kb_ 109) 39 = .ok (.istore_n 1, 1) := by decide +kernel
theorem dm_109_40 : decode (kb_ 109) 40 = .ok (.iload_n 1, 1) := by decide +kernel
theorem dm_109_41 : decode (kb_ 109) 41 = .ok (.bipush (8), 2) := by decide +kernel
theorem dm_109_43 : decode (kb_ 109) 43 = .ok (.if_icmp .ge (22), 3) := by decide +kernel
theorem dm_109_46 : decode (kb_ 109) 46 = .ok (.aload_n 0, 1) := by decide +kernel
theorem dm_109_47 : decode (kb_ 109) 47 = .ok (.getfield 11, 3) := by decide +kernel
theorem dm_109_50 : decode (kb_ 109) 50 = .ok (.iload_n 1, 1) := by decide +kernel
theorem dm_109_51 : decode (kb_ 109) 51 = .ok (.new 9, 3) := by decide +kernel
theorem dm_109_54 : decode (kb_ 109) 54 = .ok (.dup, 1) := by decide +kernel
theorem dm_109_55 : decode (kb_ 109) 55 = .ok (.invokespecial 27, 3) := by decide +kernel
theorem dm_109_58 : decode (kb_ 109) 58 = .ok (.aastore, 1) := by decide +kernel
theorem dm_109_59 : decode (kb_ 109) 59 = .ok (.iinc 1 (1), 3) := by decide +kernel
theorem dm_109_62 : decode (kb_ 109) 62 = .ok (.goto (-22), 3) := by decide +kernel
theorem dm_109_65 : decode (kb_ 109) 65 = .ok (.return_, 1) := by decide +kernel
theorem dm_110_0 : decode (kb_ 110) 0 = .ok (.aload_n 2, 1) := by decide +kernel
theorem dm_110_1 : decode (kb_ 110) 1 = .ok (.iconst (0), 1) := by decide +kernel
theorem dm_110_2 : decode (kb_ 110) 2 = .ok (.aload_n 0, 1) := by decide +kernel
theorem dm_110_3 : decode (kb_ 110) 3 = .ok (.iload_n 1, 1) := by decide +kernel
theorem dm_110_4 : decode (kb_ 110) 4 = .ok (.invokevirtual 40, 3) := by decide +kernel
theorem dm_110_7 : decode (kb_ 110) 7 = .ok (.i2l, 1) := by decide +kernel
theorem dm_110_8 : decode (kb_ 110) 8 = .ok (.lastore, 1) := by decide +kernel
theorem dm_110_9 : decode (kb_ 110) 9 = .ok (.goto (9), 3) := by decide +kernel
theorem dm_110_12 : decode (kb_ 110) 12 = .ok (.astore_n 3, 1) := by decide +kernel
theorem dm_110_13 : decode (kb_ 110) 13 = .ok (.iconst (1), 1) := by decide +kernel
theorem dm_110_14 : decode (kb_ 110) 14 = .ok (.ireturn, 1) := by decide +kernel
theorem dm_110_15 : decode (kb_ 110) 15 = .ok (.astore_n 3, 1) := by decide +kernel
theorem dm_110_16 : decode (kb_ 110) 16 = .ok (.iconst (2), 1) := by decide +kernel
theorem dm_110_17 : decode (kb_ 110) 17 = .ok (.ireturn, 1) := by decide +kernel
theorem dm_110_18 : decode (kb_ 110) 18 = .ok (.iconst (0), 1) := by decide +kernel
theorem dm_110_19 : decode (kb_ 110) 19 = .ok (.ireturn, 1) := by decide +kernel
theorem dm_111_0 : decode (kb_ 111) 0 = .ok (.aload 4, 2) := by decide +kernel
theorem dm_111_2 : decode (kb_ 111) 2 = .ok (.iconst (0), 1) := by decide +kernel
theorem dm_111_3 : decode (kb_ 111) 3 = .ok (.aload_n 0, 1) := by decide +kernel
theorem dm_111_4 : decode (kb_ 111) 4 = .ok (.iload_n 1, 1) := by decide +kernel
theorem dm_111_5 : decode (kb_ 111) 5 = .ok (.iload_n 2, 1) := by decide +kernel
theorem dm_111_6 : decode (kb_ 111) 6 = .ok (.iload_n 3, 1) := by decide +kernel
theorem dm_111_7 : decode (kb_ 111) 7 = .ok (.invokevirtual 30, 3) := by decide +kernel
theorem dm_111_10 : decode (kb_ 111) 10 = .ok (.i2l, 1) := by decide +kernel
theorem dm_111_11 : decode (kb_ 111) 11 = .ok (.lastore, 1) := by decide +kernel
theorem dm_111_12 : decode (kb_ 111) 12 = .ok (.goto (11), 3) := by decide +kernel
theorem dm_111_15 : decode (kb_ 111) 15 = .ok (.astore 5, 2) := by decide +kernel
theorem dm_111_17 : decode (kb_ 111) 17 = .ok (.iconst (1), 1) := by decide +kernel
theorem dm_111_18 : decode (kb_ 111) 18 = .ok (.ireturn, 1) := by decide +kernel
theorem dm_111_19 : decode (kb_ 111) 19 = .ok (.astore 5, 2) := by decide +kernel
theorem dm_111_21 : decode (kb_ 111) 21 = .ok (.iconst (2), 1) := by decide +kernel
theorem dm_111_22 : decode (kb_ 111) 22 = .ok (.ireturn, 1) := by decide +kernel
theorem dm_111_23 : decode (kb_ 111) 23 = .ok (.iconst (0), 1) := by decide +kernel
theorem dm_111_24 : decode (kb_ 111) 24 = .ok (.ireturn, 1) := by decide +kernel
theorem dm_112_0 : decode (kb_ 112) 0 = .ok (.aload_n 2, 1) := by decide +kernel
theorem dm_112_1 : decode (kb_ 112) 1 = .ok (.iconst (0), 1) := by decide +kernel
theorem dm_112_2 : decode (kb_ 112) 2 = .ok (.aload_n 0, 1) := by decide +kernel
theorem dm_112_3 : decode (kb_ 112) 3 = .ok (.iload_n 1, 1) := by decide +kernel
theorem dm_112_4 : decode (kb_ 112) 4 = .ok (.invokevirtual 55, 3) := by decide +kernel
theorem dm_112_7 : decode (kb_ 112) 7 = .ok (.i2l, 1) := by decide +kernel
theorem dm_112_8 : decode (kb_ 112) 8 = .ok (.lastore, 1) := by decide +kernel
theorem dm_112_9 : decode (kb_ 112) 9 = .ok (.goto (6), 3) := by decide +kernel
theorem dm_112_12 : decode (kb_ 112) 12 = .ok (.astore_n 3, 1) := by decide +kernel
theorem dm_112_13 : decode (kb_ 112) 13 = .ok (.iconst (1), 1) := by decide +kernel
theorem dm_112_14 : decode (kb_ 112) 14 = .ok (.ireturn, 1) := by decide +kernel
theorem dm_112_15 : decode (kb_ 112) 15 = .ok (.iconst (0), 1) := by decide +kernel
theorem dm_112_16 : decode (kb_ 112) 16 = .ok (.ireturn, 1) := by decide +kernel
theorem dm_113_0 : decode (kb_ 113) 0 = .ok (.aload_n 2, 1) := by decide +kernel
theorem dm_113_1 : decode (kb_ 113) 1 = .ok (.iconst (0), 1) := by decide +kernel
theorem dm_113_2 : decode (kb_ 113) 2 = .ok (.aload_n 0, 1) := by decide +kernel
theorem dm_113_3 : decode (kb_ 113) 3 = .ok (.iload_n 1, 1) := by decide +kernel
theorem dm_113_4 : decode (kb_ 113) 4 = .ok (.invokevirtual 21, 3) := by decide +kernel
theorem dm_113_7 : decode (kb_ 113) 7 = .ok (.i2l, 1) := by decide +kernel
theorem dm_113_8 : decode (kb_ 113) 8 = .ok (.lastore, 1) := by decide +kernel
theorem dm_113_9 : decode (kb_ 113) 9 = .ok (.goto (9), 3) := by decide +kernel
theorem dm_113_12 : decode (kb_ 113) 12 = .ok (.astore_n 3, 1) := by decide +kernel
theorem dm_113_13 : decode (kb_ 113) 13 = .ok (.iconst (1), 1) := by decide +kernel
theorem dm_113_14 : decode (kb_ 113) 14 = .ok (.ireturn, 1) := by decide +kernel
theorem dm_113_15 : decode (kb_ 113) 15 = .ok (.astore_n 3, 1) := by decide +kernel
theorem dm_113_16 : decode (kb_ 113) 16 = .ok (.iconst (2), 1) := by decide +kernel
theorem dm_113_17 : decode (kb_ 113) 17 = .ok (.ireturn, 1) := by decide +kernel
theorem dm_113_18 : decode (kb_ 113) 18 = .ok (.iconst (0), 1) := by decide +kernel
theorem dm_113_19 : decode (kb_ 113) 19 = .ok (.ireturn, 1) := by decide +kernel
theorem dm_114_0 : decode (kb_ 114) 0 = .ok (.aload_n 3, 1) := by decide +kernel
theorem dm_114_1 : decode (kb_ 114) 1 = .ok (.iconst (0), 1) := by decide +kernel
theorem dm_114_2 : decode (kb_ 114) 2 = .ok (.aload_n 0, 1) := by decide +kernel
theorem dm_114_3 : decode (kb_ 114) 3 = .ok (.iload_n 1, 1) := by decide +kernel
theorem dm_114_4 : decode (kb_ 114) 4 = .ok (.iload_n 2, 1) := by decide +kernel
theorem dm_114_5 : decode (kb_ 114) 5 = .ok (.invokevirtual 34, 3) := by decide +kernel
theorem dm_114_8 : decode (kb_ 114) 8 = .ok (.i2l, 1) := by decide +kernel
theorem dm_114_9 : decode (kb_ 114) 9 = .ok (.lastore, 1) := by decide +kernel
theorem dm_114_10 : decode (kb_ 114) 10 = .ok (.goto (11), 3) := by decide +kernel
theorem dm_114_13 : decode (kb_ 114) 13 = .ok (.astore 4, 2) := by decide +kernel
theorem dm_114_15 : decode (kb_ 114) 15 = .ok (.iconst (1), 1) := by decide +kernel
theorem dm_114_16 : decode (kb_ 114) 16 = .ok (.ireturn, 1) := by decide +kernel
theorem dm_114_17 : decode (kb_ 114) 17 = .ok (.astore 4, 2) := by decide +kernel
theorem dm_114_19 : decode (kb_ 114) 19 = .ok (.iconst (2), 1) := by decide +kernel
theorem dm_114_20 : decode (kb_ 114) 20 = .ok (.ireturn, 1) := by decide +kernel
theorem dm_114_21 : decode (kb_ 114) 21 = .ok (.iconst (0), 1) := by decide +kernel
theorem dm_114_22 : decode (kb_ 114) 22 = .ok (.ireturn, 1) := by decide +kernel
theorem dm_115_0 : decode (kb_ 115) 0 = .ok (.aload_n 0, 1) := by decide +kernel
theorem dm_115_1 : decode (kb_ 115) 1 = .ok (.aload_n 0, 1) := by decide +kernel
theorem dm_115_2 : decode (kb_ 115) 2 = .ok (.iload_n 1, 1) := by decide +kernel
theorem dm_115_3 : decode (kb_ 115) 3 = .ok (.invokevirtual 146, 3) := by decide +kernel
theorem dm_115_6 : decode (kb_ 115) 6 = .ok (.ifCond .eq (15), 3) := by decide +kernel
theorem dm_115_9 : decode (kb_ 115) 9 = .ok (.iload_n 2, 1) := by decide +kernel
theorem dm_115_10 : decode (kb_ 115) 10 = .ok (.iconst (4), 1) := by decide +kernel
theorem dm_115_11 : decode (kb_ 115) 11 = .ok (.invokestatic 113, 3) := by decide +kernel
theorem dm_115_14 : decode (kb_ 115) 14 = .ok (.ifCond .eq (7), 3) := by decide +kernel
theorem dm_115_17 : decode (kb_ 115) 17 = .ok (.iconst (1), 1) := by decide +kernel
theorem dm_115_18 : decode (kb_ 115) 18 = .ok (.goto (4), 3) := by decide +kernel
theorem dm_115_21 : decode (kb_ 115) 21 = .ok (.iconst (0), 1) := by decide +kernel
theorem dm_115_22 : decode (kb_ 115) 22 = .ok (.iload_n 3, 1) := by decide +kernel
theorem dm_115_23 : decode (kb_ 115) 23 = .ok (.iconst (-1), 1) := by decide +kernel
theorem dm_115_24 : decode (kb_ 115) 24 = .ok (.if_icmp .lt (12), 3) := by decide +kernel
theorem dm_115_27 : decode (kb_ 115) 27 = .ok (.iload_n 3, 1) := by decide +kernel
theorem dm_115_28 : decode (kb_ 115) 28 = .ok (.iconst (1), 1) := by decide +kernel
theorem dm_115_29 : decode (kb_ 115) 29 = .ok (.if_icmp .gt (7), 3) := by decide +kernel
theorem dm_115_32 : decode (kb_ 115) 32 = .ok (.iconst (1), 1) := by decide +kernel
theorem dm_115_33 : decode (kb_ 115) 33 = .ok (.goto (4), 3) := by decide +kernel
theorem dm_115_36 : decode (kb_ 115) 36 = .ok (.iconst (0), 1) := by decide +kernel
theorem dm_115_37 : decode (kb_ 115) 37 = .ok (.invokevirtual 128, 3) := by decide +kernel
theorem dm_115_40 : decode (kb_ 115) 40 = .ok (.ifCond .ne (5), 3) := by decide +kernel
theorem dm_115_43 : decode (kb_ 115) 43 = .ok (.iconst (0), 1) := by decide +kernel
theorem dm_115_44 : decode (kb_ 115) 44 = .ok (.ireturn, 1) := by decide +kernel
theorem dm_115_45 : decode (kb_ 115) 45 = .ok (.aload_n 0, 1) := by decide +kernel
theorem dm_115_46 : decode (kb_ 115) 46 = .ok (.getfield 31, 3) := by decide +kernel
theorem dm_115_49 : decode (kb_ 115) 49 = .ok (.iconst (4), 1) := by decide +kernel
theorem dm_115_50 : decode (kb_ 115) 50 = .ok (.iload_n 1, 1) := by decide +kernel
theorem dm_115_51 : decode (kb_ 115) 51 = .ok (.imul, 1) := by decide +kernel
theorem dm_115_52 : decode (kb_ 115) 52 = .ok (.iload_n 2, 1) := by decide +kernel
theorem dm_115_53 : decode (kb_ 115) 53 = .ok (.iadd, 1) := by decide +kernel
theorem dm_115_54 : decode (kb_ 115) 54 = .ok (.iaload, 1) := by decide +kernel
theorem dm_115_55 : decode (kb_ 115) 55 = .ok (.istore 4, 2) := by decide +kernel
theorem dm_115_57 : decode (kb_ 115) 57 = .ok (.aload_n 0, 1) := by decide +kernel
theorem dm_115_58 : decode (kb_ 115) 58 = .ok (.getfield 31, 3) := by decide +kernel
theorem dm_115_61 : decode (kb_ 115) 61 = .ok (.iconst (4), 1) := by decide +kernel
theorem dm_115_62 : decode (kb_ 115) 62 = .ok (.iload_n 1, 1) := by decide +kernel
theorem dm_115_63 : decode (kb_ 115) 63 = .ok (.imul, 1) := by decide +kernel
theorem dm_115_64 : decode (kb_ 115) 64 = .ok (.iload_n 2, 1) := by decide +kernel
theorem dm_115_65 : decode (kb_ 115) 65 = .ok (.iadd, 1) := by decide +kernel
theorem dm_115_66 : decode (kb_ 115) 66 = .ok (.iload_n 3, 1) := by decide +kernel
theorem dm_115_67 : decode (kb_ 115) 67 = .ok (.iastore, 1) := by decide +kernel
theorem dm_115_68 : decode (kb_ 115) 68 = .ok (.iload 4, 2) := by decide +kernel
theorem dm_115_70 : decode (kb_ 115) 70 = .ok (.ireturn, 1) := by decide +kernel
theorem dm_116_0 : decode (kb_ 116) 0 = .ok (.iconst (1), 1) := by decide +kernel
theorem dm_116_1 : decode (kb_ 116) 1 = .ok (.istore_n 3, 1) := by decide +kernel
theorem dm_116_2 : decode (kb_ 116) 2 = .ok (.iconst (0), 1) := by decide +kernel
theorem dm_116_3 : decode (kb_ 116) 3 = .ok (.istore 4, 2) := by decide +kernel
theorem dm_116_5 : decode (kb_ 116) 5 = .ok (.iload 4, 2) := by decide +kernel
theorem dm_116_7 : decode (kb_ 116) 7 = .ok (.aload_n 0, 1) := by decide +kernel
theorem dm_116_8 : decode (kb_ 116) 8 = .ok (.getfield 117, 3) := by decide +kernel
theorem dm_116_11 : decode (kb_ 116) 11 = .ok (.if_icmp .ge (44), 3) := by decide +kernel
theorem dm_116_14 : decode (kb_ 116) 14 = .ok (.iload_n 3, 1) := by decide +kernel
theorem dm_116_15 : decode (kb_ 116) 15 = .ok (.ifCond .eq (32), 3) := by decide +kernel
theorem dm_116_18 : decode (kb_ 116) 18 = .ok (.aload_n 0, 1) := by decide +kernel
theorem dm_116_19 : decode (kb_ 116) 19 = .ok (.getfield 7, 3) := by decide +kernel
theorem dm_116_22 : decode (kb_ 116) 22 = .ok (.iload 4, 2) := by decide +kernel
theorem dm_116_24 : decode (kb_ 116) 24 = .ok (.iaload, 1) := by decide +kernel
theorem dm_116_25 : decode (kb_ 116) 25 = .ok (.invokestatic 136, 3) := by decide +kernel
theorem dm_116_28 : decode (kb_ 116) 28 = .ok (.ifCond .ne (15), 3) := by decide +kernel
theorem dm_116_31 : decode (kb_ 116) 31 = .ok (.aload_n 0, 1) := by decide +kernel
theorem dm_116_32 : decode (kb_ 116) 32 = .ok (.getfield 7, 3) := by decide +kernel
theorem dm_116_35 : decode (kb_ 116) 35 = .ok (.iload 4, 2) := by decide +kernel
theorem dm_116_37 : decode (kb_ 116) 37 = .ok (.iaload, 1) := by decide +kernel
theorem dm_116_38 : decode (kb_ 116) 38 = .ok (.bipush (32), 2) := by decide +kernel
theorem dm_116_40 : decode (kb_ 116) 40 = .ok (.if_icmp .ne (7), 3) := by decide +kernel
theorem dm_116_43 : decode (kb_ 116) 43 = .ok (.iconst (1), 1) := by decide +kernel
theorem dm_116_44 : decode (kb_ 116) 44 = .ok (.goto (4), 3) := by decide +kernel
theorem dm_116_47 : decode (kb_ 116) 47 = .ok (.iconst (0), 1) := by decide +kernel
theorem dm_116_48 : decode (kb_ 116) 48 = .ok (.istore_n 3, 1) := by decide +kernel
theorem dm_116_49 : decode (kb_ 116) 49 = .ok (.iinc 4 (1), 3) := by decide +kernel
theorem dm_116_52 : decode (kb_ 116) 52 = .ok (.goto (-47), 3) := by decide +kernel
theorem dm_116_55 : decode (kb_ 116) 55 = .ok (.aload_n 0, 1) := by decide +kernel
theorem dm_116_56 : decode (kb_ 116) 56 = .ok (.aload_n 0, 1) := by decide +kernel
theorem dm_116_57 : decode (kb_ 116) 57 = .ok (.iload_n 1, 1) := by decide +kernel
theorem dm_116_58 : decode (kb_ 116) 58 = .ok (.invokevirtual 146, 3) := by decide +kernel
theorem dm_116_61 : decode (kb_ 116) 61 = .ok (.ifCond .eq (15), 3) := by decide +kernel
theorem dm_116_64 : decode (kb_ 116) 64 = .ok (.iload_n 2, 1) := by decide +kernel
theorem dm_116_65 : decode (kb_ 116) 65 = .ok (.iconst (4), 1) := by decide +kernel
theorem dm_116_66 : decode (kb_ 116) 66 = .ok (.invokestatic 113, 3) := by decide +kernel
theorem dm_116_69 : decode (kb_ 116) 69 = .ok (.ifCond .eq (7), 3) := by decide +kernel
theorem dm_116_72 : decode (kb_ 116) 72 = .ok (.iconst (1), 1) := by decide +kernel
theorem dm_116_73 : decode (kb_ 116) 73 = .ok (.goto (4), 3) := by decide +kernel
theorem dm_116_76 : decode (kb_ 116) 76 = .ok (.iconst (0), 1) := by decide +kernel
theorem dm_116_77 : decode (kb_ 116) 77 = .ok (.iload_n 3, 1) := by decide +kernel
theorem dm_116_78 : decode (kb_ 116) 78 = .ok (.invokevirtual 128, 3) := by decide +kernel
theorem dm_116_81 : decode (kb_ 116) 81 = .ok (.ifCond .ne (5), 3) := by decide +kernel
theorem dm_116_84 : decode (kb_ 116) 84 = .ok (.iconst (0), 1) := by decide +kernel
theorem dm_116_85 : decode (kb_ 116) 85 = .ok (.ireturn, 1) := by decide +kernel
theorem dm_116_86 : decode (kb_ 116) 86 = .ok (.iconst (4), 1) := by decide +kernel
theorem dm_116_87 : decode (kb_ 116) 87 = .ok (.iload_n 1, 1) := by decide +kernel
theorem dm_116_88 : decode (kb_ 116) 88 = .ok (.imul, 1) := by decide +kernel
theorem dm_116_89 : decode (kb_ 116) 89 = .ok (.iload_n 2, 1) := by decide +kernel
theorem dm_116_90 : decode (kb_ 116) 90 = .ok (.iadd, 1) := by decide +kernel
theorem dm_116_91 : decode (kb_ 116) 91 = .ok (.istore 4, 2) := by decide +kernel
theorem dm_116_93 : decode (kb_ 116) 93 = .ok (.aload_n 0, 1) := by decide +kernel
theorem dm_116_94 : decode (kb_ 116) 94 = .ok (.getfield 22, 3) := by decide +kernel
theorem dm_116_97 : decode (kb_ 116) 97 = .ok (.iload 4, 2) := by decide +kernel
theorem dm_116_99 : decode (kb_ 116) 99 = .ok (.aload_n 0, 1) := by decide +kernel
theorem dm_116_100 : decode (kb_ 116) 100 = .ok (.getfield 117, 3) := by decide +kernel
theorem dm_116_103 : decode (kb_ 116) 103 = .ok (.iastore, 1) := by decide +kernel
theorem dm_116_104 : decode (kb_ 116) 104 = .ok (.iconst (0), 1) := by decide +kernel
theorem dm_116_105 : decode (kb_ 116) 105 = .ok (.istore 5, 2) := by decide +kernel
theorem dm_116_107 : decode (kb_ 116) 107 = .ok (.iload 5, 2) := by decide +kernel
theorem dm_116_109 : decode (kb_ 116) 109 = .ok (.aload_n 0, 1) := by decide +kernel
theorem dm_116_110 : decode (kb_ 116) 110 = .ok (.getfield 117, 3) := by decide +kernel
theorem dm_116_113 : decode (kb_ 116) 113 = .ok (.if_icmp .ge (29), 3) := by decide +kernel
theorem dm_116_116 : decode (kb_ 116) 116 = .ok (.aload_n 0, 1) := by decide +kernel
theorem dm_116_117 : decode (kb_ 116) 117 = .ok (.getfield 25, 3) := by decide +kernel
theorem dm_116_120 : decode (kb_ 116) 120 = .ok (.bipush (32), 2) := by decide +kernel
theorem dm_116_122 : decode (kb_ 116) 122 = .ok (.iload 4, 2) := by decide +kernel
theorem dm_116_124 : decode (kb_ 116) 124 = .ok (.imul, 1) := by decide +kernel
theorem dm_116_125 : decode (kb_ 116) 125 = .ok (.iload 5, 2) := by decide +kernel
theorem dm_116_127 : decode (kb_ 116) 127 = .ok (.iadd, 1) := by decide +kernel
theorem dm_116_128 : decode (kb_ 116) 128 = .ok (.aload_n 0, 1) := by decide +kernel
theorem dm_116_129 : decode (kb_ 116) 129 = .ok (.getfield 7, 3) := by decide +kernel
theorem dm_116_132 : decode (kb_ 116) 132 = .ok (.iload 5, 2) := by decide +kernel
theorem dm_116_134 : decode (kb_ 116) 134 = .ok (.iaload, 1) := by decide +kernel
theorem dm_116_135 : decode (kb_ 116) 135 = .ok (.iastore, 1) := by decide +kernel
theorem dm_116_136 : decode (kb_ 116) 136 = .ok (.iinc 5 (1), 3) := by decide +kernel
theorem dm_116_139 : decode (kb_ 116) 139 = .ok (.goto (-32), 3) := by decide +kernel
theorem dm_116_142 : decode (kb_ 116) 142 = .ok (.aload_n 0, 1) := by decide +kernel
theorem dm_116_143 : decode (kb_ 116) 143 = .ok (.iconst (0), 1) := by decide +kernel
theorem dm_116_144 : decode (kb_ 116) 144 = .ok (.putfield 117, 3) := by decide +kernel
theorem dm_116_147 : decode (kb_ 116) 147 = .ok (.aload_n 0, 1) := by decide +kernel
theorem dm_116_148 : decode (kb_ 116) 148 = .ok (.getfield 22, 3) := by decide +kernel
theorem dm_116_151 : decode (kb_ 116) 151 = .ok (.iload 4, 2) := by decide +kernel
theorem dm_116_153 : decode (kb_ 116) 153 = .ok (.iaload, 1) := by decide +kernel
theorem dm_116_154 : decode (kb_ 116) 154 = .ok (.ireturn, 1) := by decide +kernel
theorem dm_117_0 : decode (kb_ 117) 0 = .ok (.aload_n 0, 1) := by decide +kernel
theorem dm_117_1 : decode (kb_ 117) 1 = .ok (.iload_n 1, 1) := by decide +kernel
theorem dm_117_2 : decode (kb_ 117) 2 = .ok (.iconst (4), 1) := by decide +kernel
theorem dm_117_3 : decode (kb_ 117) 3 = .ok (.invokestatic 113, 3) := by decide +kernel
theorem dm_117_6 : decode (kb_ 117) 6 = .ok (.ifCond .eq (11), 3) := by decide +kernel
theorem dm_117_9 : decode (kb_ 117) 9 = .ok (.iload_n 2, 1) := by decide +kernel
theorem dm_117_10 : decode (kb_ 117) 10 = .ok (.ifCond .lt (7), 3) := by decide +kernel
theorem dm_117_13 : decode (kb_ 117) 13 = .ok (.iconst (1), 1) := by decide +kernel
theorem dm_117_14 : decode (kb_ 117) 14 = .ok (.goto (4), 3) := by decide +kernel
theorem dm_117_17 : decode (kb_ 117) 17 = .ok (.iconst (0), 1) := by decide +kernel
theorem dm_117_18 : decode (kb_ 117) 18 = .ok (.iconst (1), 1) := by decide +kernel
theorem dm_117_19 : decode (kb_ 117) 19 = .ok (.invokevirtual 128, 3) := by decide +kernel
theorem dm_117_22 : decode (kb_ 117) 22 = .ok (.ifCond .ne (5), 3) := by decide +kernel
theorem dm_117_25 : decode (kb_ 117) 25 = .ok (.iconst (0), 1) := by decide +kernel
theorem dm_117_26 : decode (kb_ 117) 26 = .ok (.ireturn, 1) := by decide +kernel
theorem dm_117_27 : decode (kb_ 117) 27 = .ok (.iconst (-1), 1) := by decide +kernel
theorem dm_117_28 : decode (kb_ 117) 28 = .ok (.istore_n 3, 1) := by decide +kernel
theorem dm_117_29 : decode (kb_ 117) 29 = .ok (.iconst (0), 1) := by decide +kernel
theorem dm_117_30 : decode (kb_ 117) 30 = .ok (.istore 4, 2) := by decide +kernel
theorem dm_117_32 : decode (kb_ 117) 32 = .ok (.iload 4, 2) := by decide +kernel
theorem dm_117_34 : decode (kb_ 117) 34 = .ok (.aload_n 0, 1) := by decide +kernel
theorem dm_117_35 : decode (kb_ 117) 35 = .ok (.getfield 110, 3) := by decide +kernel
theorem dm_117_38 : decode (kb_ 117) 38 = .ok (.if_icmp .ge (101), 3) := by decide +kernel
theorem dm_117_41 : decode (kb_ 117) 41 = .ok (.iconst (0), 1) := by decide +kernel
theorem dm_117_42 : decode (kb_ 117) 42 = .ok (.istore 5, 2) := by decide +kernel
theorem dm_117_44 : decode (kb_ 117) 44 = .ok (.iconst (0), 1) := by decide +kernel
theorem dm_117_45 : decode (kb_ 117) 45 = .ok (.istore 6, 2) := by decide +kernel
theorem dm_117_47 : decode (kb_ 117) 47 = .ok (.iload 6, 2) := by decide +kernel
theorem dm_117_49 : decode (kb_ 117) 49 = .ok (.aload_n 0, 1) := by decide +kernel
theorem dm_117_50 : decode (kb_ 117) 50 = .ok (.getfield 110, 3) := by decide +kernel
theorem dm_117_53 : decode (kb_ 117) 53 = .ok (.if_icmp .ge (53), 3) := by decide +kernel
theorem dm_117_56 : decode (kb_ 117) 56 = .ok (.iload 6, 2) := by decide +kernel
theorem dm_117_58 : decode (kb_ 117) 58 = .ok (.iload 4, 2) := by decide +kernel
theorem dm_117_60 : decode (kb_ 117) 60 = .ok (.if_icmp .eq (36), 3) := by decide +kernel
theorem dm_117_63 : decode (kb_ 117) 63 = .ok (.aload_n 0, 1) := by decide +kernel
theorem dm_117_64 : decode (kb_ 117) 64 = .ok (.getfield 22, 3) := by decide +kernel
theorem dm_117_67 : decode (kb_ 117) 67 = .ok (.iconst (4), 1) := by decide +kernel
theorem dm_117_68 : decode (kb_ 117) 68 = .ok (.iload 6, 2) := by decide +kernel
theorem dm_117_70 : decode (kb_ 117) 70 = .ok (.imul, 1) := by decide +kernel
theorem dm_117_71 : decode (kb_ 117) 71 = .ok (.iload_n 1, 1) := by decide +kernel
theorem dm_117_72 : decode (kb_ 117) 72 = .ok (.iadd, 1) := by decide +kernel
theorem dm_117_73 : decode (kb_ 117) 73 = .ok (.iaload, 1) := by decide +kernel
theorem dm_117_74 : decode (kb_ 117) 74 = .ok (.ifCond .le (22), 3) := by decide +kernel
theorem dm_117_77 : decode (kb_ 117) 77 = .ok (.aload_n 0, 1) := by decide +kernel
theorem dm_117_78 : decode (kb_ 117) 78 = .ok (.iload 6, 2) := by decide +kernel
theorem dm_117_80 : decode (kb_ 117) 80 = .ok (.iload 4, 2) := by decide +kernel
theorem dm_117_82 : decode (kb_ 117) 82 = .ok (.iload_n 1, 1) := by decide +kernel
theorem dm_117_83 : decode (kb_ 117) 83 = .ok (.invokevirtual 213, 3) := by decide +kernel
theorem dm_117_86 : decode (kb_ 117) 86 = .ok (.ifCond .eq (10), 3) := by decide +kernel
theorem dm_117_89 : decode (kb_ 117) 89 = .ok (.iload 5, 2) := by decide +kernel
theorem dm_117_91 : decode (kb_ 117) 91 = .ok (.iconst (1), 1) := by decide +kernel
theorem dm_117_92 : decode (kb_ 117) 92 = .ok (.iadd, 1) := by decide +kernel
theorem dm_117_93 : decode (kb_ 117) 93 = .ok (.goto (5), 3) := by decide +kernel
theorem dm_117_96 : decode (kb_ 117) 96 = .ok (.iload 5, 2) := by decide +kernel
theorem dm_117_98 : decode (kb_ 117) 98 = .ok (.istore 5, 2) := by decide +kernel
theorem dm_117_100 : decode (kb_ 117) 100 = .ok (.iinc 6 (1), 3) := by decide +kernel
theorem dm_117_103 : decode (kb_ 117) 103 = .ok (.goto (-56), 3) := by decide +kernel
theorem dm_117_106 : decode (kb_ 117) 106 = .ok (.aload_n 0, 1) := by decide +kernel
theorem dm_117_107 : decode (kb_ 117) 107 = .ok (.getfield 22, 3) := by decide +kernel
theorem dm_117_110 : decode (kb_ 117) 110 = .ok (.iconst (4), 1) := by decide +kernel
theorem dm_117_111 : decode (kb_ 117) 111 = .ok (.iload 4, 2) := by decide +kernel
theorem dm_117_113 : decode (kb_ 117) 113 = .ok (.imul, 1) := by decide +kernel
theorem dm_117_114 : decode (kb_ 117) 114 = .ok (.iload_n 1, 1) := by decide +kernel
theorem dm_117_115 : decode (kb_ 117) 115 = .ok (.iadd, 1) := by decide +kernel
theorem dm_117_116 : decode (kb_ 117) 116 = .ok (.iaload, 1) := by decide +kernel
theorem dm_117_117 : decode (kb_ 117) 117 = .ok (.ifCond .le (14), 3) := by decide +kernel
theorem dm_117_120 : decode (kb_ 117) 120 = .ok (.iload 5, 2) := by decide +kernel
theorem dm_117_122 : decode (kb_ 117) 122 = .ok (.iload_n 2, 1) := by decide +kernel
theorem dm_117_123 : decode (kb_ 117) 123 = .ok (.if_icmp .ne (8), 3) := by decide +kernel
theorem dm_117_126 : decode (kb_ 117) 126 = .ok (.iload 4, 2) := by decide +kernel
theorem dm_117_128 : decode (kb_ 117) 128 = .ok (.goto (4), 3) := by decide +kernel
theorem dm_117_131 : decode (kb_ 117) 131 = .ok (.iload_n 3, 1) := by decide +kernel
theorem dm_117_132 : decode (kb_ 117) 132 = .ok (.istore_n 3, 1) := by decide +kernel
theorem dm_117_133 : decode (kb_ 117) 133 = .ok (.iinc 4 (1), 3) := by decide +kernel
theorem dm_117_136 : decode (kb_ 117) 136 = .ok (.goto (-104), 3) := by decide +kernel
theorem dm_117_139 : decode (kb_ 117) 139 = .ok (.iload_n 3, 1) := by decide +kernel
theorem dm_117_140 : decode (kb_ 117) 140 = .ok (.ireturn, 1) := by decide +kernel
theorem dm_118_0 : decode (kb_ 118) 0 = .ok (.aload_n 0, 1) := by decide +kernel
theorem dm_118_1 : decode (kb_ 118) 1 = .ok (.aload_n 0, 1) := by decide +kernel
theorem dm_118_2 : decode (kb_ 118) 2 = .ok (.iload_n 1, 1) := by decide +kernel
theorem dm_118_3 : decode (kb_ 118) 3 = .ok (.invokevirtual 207, 3) := by decide +kernel
theorem dm_118_6 : decode (kb_ 118) 6 = .ok (.aload_n 0, 1) := by decide +kernel
theorem dm_118_7 : decode (kb_ 118) 7 = .ok (.getfield 52, 3) := by decide +kernel
theorem dm_118_10 : decode (kb_ 118) 10 = .ok (.iconst (-1), 1) := by decide +kernel
theorem dm_118_11 : decode (kb_ 118) 11 = .ok (.if_icmp .eq (7), 3) := by decide +kernel
theorem dm_118_14 : decode (kb_ 118) 14 = .ok (.iconst (1), 1) := by decide +kernel
theorem dm_118_15 : decode (kb_ 118) 15 = .ok (.goto (4), 3) := by decide +kernel
theorem dm_118_18 : decode (kb_ 118) 18 = .ok (.iconst (0), 1) := by decide +kernel
theorem dm_118_19 : decode (kb_ 118) 19 = .ok (.invokevirtual 128, 3) := by decide +kernel
theorem dm_118_22 : decode (kb_ 118) 22 = .ok (.ifCond .eq (20), 3) := by decide +kernel
theorem dm_118_25 : decode (kb_ 118) 25 = .ok (.aload_n 0, 1) := by decide +kernel
theorem dm_118_26 : decode (kb_ 118) 26 = .ok (.getfield 62, 3) := by decide +kernel
theorem dm_118_29 : decode (kb_ 118) 29 = .ok (.bipush (8), 2) := by decide +kernel
theorem dm_118_31 : decode (kb_ 118) 31 = .ok (.aload_n 0, 1) := by decide +kernel
theorem dm_118_32 : decode (kb_ 118) 32 = .ok (.getfield 52, 3) := by decide +kernel
theorem dm_118_35 : decode (kb_ 118) 35 = .ok (.imul, 1) := by decide +kernel
theorem dm_118_36 : decode (kb_ 118) 36 = .ok (.iload_n 1, 1) := by decide +kernel
theorem dm_118_37 : decode (kb_ 118) 37 = .ok (.iadd, 1) := by decide +kernel
theorem dm_118_38 : decode (kb_ 118) 38 = .ok (.iaload, 1) := by decide +kernel
theorem dm_118_39 : decode (kb_ 118) 39 = .ok (.goto (4), 3) := by decide +kernel
theorem dm_118_42 : decode (kb_ 118) 42 = .ok (.iconst (0), 1) := by decide +kernel
theorem dm_118_43 : decode (kb_ 118) 43 = .ok (.ireturn, 1) := by decide +kernel
theorem dm_119_0 : decode (kb_ 119) 0 = .ok (.aload_n 0, 1) := by decide +kernel
theorem dm_119_1 : decode (kb_ 119) 1 = .ok (.aload_n 0, 1) := by decide +kernel
theorem dm_119_2 : decode (kb_ 119) 2 = .ok (.iload_n 1, 1) := by decide +kernel
theorem dm_119_3 : decode (kb_ 119) 3 = .ok (.invokevirtual 146, 3) := by decide +kernel
theorem dm_119_6 : decode (kb_ 119) 6 = .ok (.iload_n 2, 1) := by decide +kernel
theorem dm_119_7 : decode (kb_ 119) 7 = .ok (.ifCond .lt (13), 3) := by decide +kernel
theorem dm_119_10 : decode (kb_ 119) 10 = .ok (.iload_n 2, 1) := by decide +kernel
theorem dm_119_11 : decode (kb_ 119) 11 = .ok (.bipush (30), 2) := by decide +kernel
theorem dm_119_13 : decode (kb_ 119) 13 = .ok (.if_icmp .gt (7), 3) := by decide +kernel
theorem dm_119_16 : decode (kb_ 119) 16 = .ok (.iconst (1), 1) := by decide +kernel
theorem dm_119_17 : decode (kb_ 119) 17 = .ok (.goto (4), 3) := by decide +kernel
theorem dm_119_20 : decode (kb_ 119) 20 = .ok (.iconst (0), 1) := by decide +kernel
theorem dm_119_21 : decode (kb_ 119) 21 = .ok (.invokevirtual 128, 3) := by decide +kernel
theorem dm_119_24 : decode (kb_ 119) 24 = .ok (.ifCond .ne (5), 3) := by decide +kernel
theorem dm_119_27 : decode (kb_ 119) 27 = .ok (.iconst (0), 1) := by decide +kernel
theorem dm_119_28 : decode (kb_ 119) 28 = .ok (.ireturn, 1) := by decide +kernel
theorem dm_119_29 : decode (kb_ 119) 29 = .ok (.aload_n 0, 1) := by decide +kernel
theorem dm_119_30 : decode (kb_ 119) 30 = .ok (.getfield 28, 3) := by decide +kernel
theorem dm_119_33 : decode (kb_ 119) 33 = .ok (.iload_n 1, 1) := by decide +kernel
theorem dm_119_34 : decode (kb_ 119) 34 = .ok (.iaload, 1) := by decide +kernel
theorem dm_119_35 : decode (kb_ 119) 35 = .ok (.istore_n 3, 1) := by decide +kernel
theorem dm_119_36 : decode (kb_ 119) 36 = .ok (.aload_n 0, 1) := by decide +kernel
theorem dm_119_37 : decode (kb_ 119) 37 = .ok (.getfield 28, 3) := by decide +kernel
theorem dm_119_40 : decode (kb_ 119) 40 = .ok (.iload_n 1, 1) := by decide +kernel
theorem dm_119_41 : decode (kb_ 119) 41 = .ok (.iload_n 2, 1) := by decide +kernel
theorem dm_119_42 : decode (kb_ 119) 42 = .ok (.iastore, 1) := by decide +kernel
theorem dm_119_43 : decode (kb_ 119) 43 = .ok (.iload_n 3, 1) := by decide +kernel
theorem dm_119_44 : decode (kb_ 119) 44 = .ok (.ireturn, 1) := by decide +kernel
theorem dm_120_0 : decode (kb_ 120) 0 = .ok (.aload_n 0, 1) := by decide +kernel
theorem dm_120_1 : decode (kb_ 120) 1 = .ok (.getfield 19, 3) := by decide +kernel
theorem dm_120_4 : decode (kb_ 120) 4 = .ok (.iload_n 1, 1) := by decide +kernel
theorem dm_120_5 : decode (kb_ 120) 5 = .ok (.iaload, 1) := by decide +kernel
theorem dm_120_6 : decode (kb_ 120) 6 = .ok (.istore_n 2, 1) := by decide +kernel
theorem dm_120_7 : decode (kb_ 120) 7 = .ok (.aload_n 0, 1) := by decide +kernel
theorem dm_120_8 : decode (kb_ 120) 8 = .ok (.iconst (0), 1) := by decide +kernel
theorem dm_120_9 : decode (kb_ 120) 9 = .ok (.putfield 152, 3) := by decide +kernel
theorem dm_120_12 : decode (kb_ 120) 12 = .ok (.iconst (0), 1) := by decide +kernel
theorem dm_120_13 : decode (kb_ 120) 13 = .ok (.istore_n 3, 1) := by decide +kernel
theorem dm_120_14 : decode (kb_ 120) 14 = .ok (.iload_n 3, 1) := by decide +kernel
