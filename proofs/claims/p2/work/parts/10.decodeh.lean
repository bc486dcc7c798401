theorem dm_127_28 : decode (kb_ 127) 28 = .ok (.ireturn, 1) := by decide +kernel
theorem dm_128_0 : decode (kb_ 128) 0 = .ok (.aload_n 0, 1) := by decide +kernel
theorem dm_128_1 : decode (kb_ 128) 1 = .ok (.getfield 91, 3) := by decide +kernel
theorem dm_128_4 : decode (kb_ 128) 4 = .ok (.bipush (6), 2) := by decide +kernel
theorem dm_128_6 : decode (kb_ 128) 6 = .ok (.if_icmp .lt (13), 3) := by decide +kernel
theorem dm_128_9 : decode (kb_ 128) 9 = .ok (.new 72, 3) := by decide +kernel
theorem dm_128_12 : decode (kb_ 128) 12 = .ok (.dup, 1) := by decide +kernel
theorem dm_128_13 : decode (kb_ 128) 13 = .ok (.ldc 94, 2) := by decide +kernel
theorem dm_128_15 : decode (kb_ 128) 15 = .ok (.invokespecial 76, 3) := by decide +kernel
theorem dm_128_18 : decode (kb_ 128) 18 = .ok (.athrow, 1) := by decide +kernel
theorem dm_128_19 : decode (kb_ 128) 19 = .ok (.aload_n 0, 1) := by decide +kernel
theorem dm_128_20 : decode (kb_ 128) 20 = .ok (.getfield 27, 3) := by decide +kernel
theorem dm_128_23 : decode (kb_ 128) 23 = .ok (.invokestatic 96, 3) := by decide +kernel
theorem dm_128_26 : decode (kb_ 128) 26 = .ok (.istore_n 1, 1) := by decide +kernel
theorem dm_128_27 : decode (kb_ 128) 27 = .ok (.iload_n 1, 1) := by decide +kernel
theorem dm_128_28 : decode (kb_ 128) 28 = .ok (.iconst (-1), 1) := by decide +kernel
theorem dm_128_29 : decode (kb_ 128) 29 = .ok (.if_icmp .eq (14), 3) := by decide +kernel
theorem dm_128_32 : decode (kb_ 128) 32 = .ok (.aload_n 0, 1) := by decide +kernel
theorem dm_128_33 : decode (kb_ 128) 33 = .ok (.getfield 27, 3) := by decide +kernel
theorem dm_128_36 : decode (kb_ 128) 36 = .ok (.invokevirtual 100, 3) := by decide +kernel
theorem dm_128_39 : decode (kb_ 128) 39 = .ok (.iconst (-1), 1) := by decide +kernel
theorem dm_128_40 : decode (kb_ 128) 40 = .ok (.iload_n 1, 1) := by decide +kernel
theorem dm_128_41 : decode (kb_ 128) 41 = .ok (.isub, 1) := by decide +kernel
theorem dm_128_42 : decode (kb_ 128) 42 = .ok (.ireturn, 1) := by decide +kernel
theorem dm_128_43 : decode (kb_ 128) 43 = .ok (.aload_n 0, 1) := by decide +kernel
theorem dm_128_44 : decode (kb_ 128) 44 = .ok (.aload_n 0, 1) := by decide +kernel
theorem dm_128_45 : decode (kb_ 128) 45 = .ok (.getfield 34, 3) := by decide +kernel
theorem dm_128_48 : decode (kb_ 128) 48 = .ok (.aload_n 0, 1) := by decide +kernel
theorem dm_128_49 : decode (kb_ 128) 49 = .ok (.getfield 91, 3) := by decide +kernel
theorem dm_128_52 : decode (kb_ 128) 52 = .ok (.aaload, 1) := by decide +kernel
theorem dm_128_53 : decode (kb_ 128) 53 = .ok (.invokevirtual 103, 3) := by decide +kernel
theorem dm_128_56 : decode (kb_ 128) 56 = .ok (.pop, 1) := by decide +kernel
theorem dm_128_57 : decode (kb_ 128) 57 = .ok (.aload_n 0, 1) := by decide +kernel
theorem dm_128_58 : decode (kb_ 128) 58 = .ok (.dup, 1) := by decide +kernel
theorem dm_128_59 : decode (kb_ 128) 59 = .ok (.getfield 91, 3) := by decide +kernel
theorem dm_128_62 : decode (kb_ 128) 62 = .ok (.iconst (1), 1) := by decide +kernel
theorem dm_128_63 : decode (kb_ 128) 63 = .ok (.iadd, 1) := by decide +kernel
theorem dm_128_64 : decode (kb_ 128) 64 = .ok (.putfield 91, 3) := by decide +kernel
theorem dm_128_67 : decode (kb_ 128) 67 = .ok (.aload_n 0, 1) := by decide +kernel
theorem dm_128_68 : decode (kb_ 128) 68 = .ok (.getfield 91, 3) := by decide +kernel
theorem dm_128_71 : decode (kb_ 128) 71 = .ok (.iconst (1), 1) := by decide +kernel
theorem dm_128_72 : decode (kb_ 128) 72 = .ok (.isub, 1) := by decide +kernel
theorem dm_128_73 : decode (kb_ 128) 73 = .ok (.ireturn, 1) := by decide +kernel
theorem dm_129_0 : decode (kb_ 129) 0 = .ok (.aload_n 0, 1) := by decide +kernel
theorem dm_129_1 : decode (kb_ 129) 1 = .ok (.iconst (0), 1) := by decide +kernel
theorem dm_129_2 : decode (kb_ 129) 2 = .ok (.putfield 24, 3) := by decide +kernel
theorem dm_129_5 : decode (kb_ 129) 5 = .ok (.aload_n 3, 1) := by decide +kernel
theorem dm_129_6 : decode (kb_ 129) 6 = .ok (.iload_n 2, 1) := by decide +kernel
theorem dm_129_7 : decode (kb_ 129) 7 = .ok (.iconst (1), 1) := by decide +kernel
theorem dm_129_8 : decode (kb_ 129) 8 = .ok (.invokevirtual 35, 3) := by decide +kernel
theorem dm_129_11 : decode (kb_ 129) 11 = .ok (.aload_n 0, 1) := by decide +kernel
theorem dm_129_12 : decode (kb_ 129) 12 = .ok (.aload_n 1, 1) := by decide +kernel
theorem dm_129_13 : decode (kb_ 129) 13 = .ok (.aload_n 3, 1) := by decide +kernel
theorem dm_129_14 : decode (kb_ 129) 14 = .ok (.invokevirtual 41, 3) := by decide +kernel
theorem dm_129_17 : decode (kb_ 129) 17 = .ok (.aload_n 3, 1) := by decide +kernel
theorem dm_129_18 : decode (kb_ 129) 18 = .ok (.invokevirtual 45, 3) := by decide +kernel
theorem dm_129_21 : decode (kb_ 129) 21 = .ok (.ifCond .ne (5), 3) := by decide +kernel
theorem dm_129_24 : decode (kb_ 129) 24 = .ok (.iconst (0), 1) := by decide +kernel
theorem dm_129_25 : decode (kb_ 129) 25 = .ok (.ireturn, 1) := by decide +kernel
theorem dm_129_26 : decode (kb_ 129) 26 = .ok (.aload_n 3, 1) := by decide +kernel
theorem dm_129_27 : decode (kb_ 129) 27 = .ok (.invokevirtual 49, 3) := by decide +kernel
theorem dm_129_30 : decode (kb_ 129) 30 = .ok (.aload_n 0, 1) := by decide +kernel
theorem dm_129_31 : decode (kb_ 129) 31 = .ok (.aload_n 3, 1) := by decide +kernel
theorem dm_129_32 : decode (kb_ 129) 32 = .ok (.invokevirtual 52, 3) := by decide +kernel
theorem dm_129_35 : decode (kb_ 129) 35 = .ok (.iconst (1), 1) := by decide +kernel
theorem dm_129_36 : decode (kb_ 129) 36 = .ok (.ireturn, 1) := by decide +kernel
theorem dm_130_0 : decode (kb_ 130) 0 = .ok (.aload_n 1, 1) := by decide +kernel
theorem dm_130_1 : decode (kb_ 130) 1 = .ok (.invokevirtual 32, 3) := by decide +kernel
theorem dm_130_4 : decode (kb_ 130) 4 = .ok (.iconst (0), 1) := by decide +kernel
theorem dm_130_5 : decode (kb_ 130) 5 = .ok (.istore_n 3, 1) := by decide +kernel
theorem dm_130_6 : decode (kb_ 130) 6 = .ok (.iload_n 3, 1) := by decide +kernel
theorem dm_130_7 : decode (kb_ 130) 7 = .ok (.aload_n 0, 1) := by decide +kernel
theorem dm_130_8 : decode (kb_ 130) 8 = .ok (.getfield 24, 3) := by decide +kernel
theorem dm_130_11 : decode (kb_ 130) 11 = .ok (.invokevirtual 35, 3) := by decide +kernel
theorem dm_130_14 : decode (kb_ 130) 14 = .ok (.if_icmp .ge (102), 3) := by decide +kernel
theorem dm_130_17 : decode (kb_ 130) 17 = .ok (.aload_n 0, 1) := by decide +kernel
theorem dm_130_18 : decode (kb_ 130) 18 = .ok (.getfield 24, 3) := by decide +kernel
theorem dm_130_21 : decode (kb_ 130) 21 = .ok (.iload_n 3, 1) := by decide +kernel
theorem dm_130_22 : decode (kb_ 130) 22 = .ok (.invokevirtual 39, 3) := by decide +kernel
theorem dm_130_25 : decode (kb_ 130) 25 = .ok (.istore 4, 2) := by decide +kernel
theorem dm_130_27 : decode (kb_ 130) 27 = .ok (.iload 4, 2) := by decide +kernel
theorem dm_130_29 : decode (kb_ 130) 29 = .ok (.bipush (91), 2) := by decide +kernel
theorem dm_130_31 : decode (kb_ 130) 31 = .ok (.if_icmp .ne (20), 3) := by decide +kernel
theorem dm_130_34 : decode (kb_ 130) 34 = .ok (.aload_n 0, 1) := by decide +kernel
theorem dm_130_35 : decode (kb_ 130) 35 = .ok (.iload_n 3, 1) := by decide +kernel
theorem dm_130_36 : decode (kb_ 130) 36 = .ok (.invokevirtual 43, 3) := by decide +kernel
theorem dm_130_39 : decode (kb_ 130) 39 = .ok (.ifCond .ne (12), 3) := by decide +kernel
theorem dm_130_42 : decode (kb_ 130) 42 = .ok (.aload_n 0, 1) := by decide +kernel
theorem dm_130_43 : decode (kb_ 130) 43 = .ok (.iload_n 3, 1) := by decide +kernel
theorem dm_130_44 : decode (kb_ 130) 44 = .ok (.invokevirtual 47, 3) := by decide +kernel
theorem dm_130_47 : decode (kb_ 130) 47 = .ok (.istore_n 3, 1) := by decide +kernel
theorem dm_130_48 : decode (kb_ 130) 48 = .ok (.goto (62), 3) := by decide +kernel
theorem dm_130_51 : decode (kb_ 130) 51 = .ok (.iload 4, 2) := by decide +kernel
theorem dm_130_53 : decode (kb_ 130) 53 = .ok (.bipush (35), 2) := by decide +kernel
theorem dm_130_55 : decode (kb_ 130) 55 = .ok (.if_icmp .eq (10), 3) := by decide +kernel
theorem dm_130_58 : decode (kb_ 130) 58 = .ok (.iload 4, 2) := by decide +kernel
theorem dm_130_60 : decode (kb_ 130) 60 = .ok (.bipush (64), 2) := by decide +kernel
theorem dm_130_62 : decode (kb_ 130) 62 = .ok (.if_icmp .ne (28), 3) := by decide +kernel
theorem dm_130_65 : decode (kb_ 130) 65 = .ok (.iinc 3 (1), 3) := by decide +kernel
theorem dm_130_68 : decode (kb_ 130) 68 = .ok (.aload_n 0, 1) := by decide +kernel
theorem dm_130_69 : decode (kb_ 130) 69 = .ok (.aload_n 1, 1) := by decide +kernel
theorem dm_130_70 : decode (kb_ 130) 70 = .ok (.iload 4, 2) := by decide +kernel
theorem dm_130_72 : decode (kb_ 130) 72 = .ok (.aload_n 0, 1) := by decide +kernel
theorem dm_130_73 : decode (kb_ 130) 73 = .ok (.getfield 24, 3) := by decide +kernel
theorem dm_130_76 : decode (kb_ 130) 76 = .ok (.iload_n 3, 1) := by decide +kernel
theorem dm_130_77 : decode (kb_ 130) 77 = .ok (.invokevirtual 39, 3) := by decide +kernel
theorem dm_130_80 : decode (kb_ 130) 80 = .ok (.bipush (48), 2) := by decide +kernel
theorem dm_130_82 : decode (kb_ 130) 82 = .ok (.isub, 1) := by decide +kernel
theorem dm_130_83 : decode (kb_ 130) 83 = .ok (.aload_n 2, 1) := by decide +kernel
theorem dm_130_84 : decode (kb_ 130) 84 = .ok (.invokevirtual 50, 3) := by decide +kernel
theorem dm_130_87 : decode (kb_ 130) 87 = .ok (.goto (23), 3) := by decide +kernel
theorem dm_130_90 : decode (kb_ 130) 90 = .ok (.iload 4, 2) := by decide +kernel
theorem dm_130_92 : decode (kb_ 130) 92 = .ok (.bipush (91), 2) := by decide +kernel
theorem dm_130_94 : decode (kb_ 130) 94 = .ok (.if_icmp .eq (16), 3) := by decide +kernel
theorem dm_130_97 : decode (kb_ 130) 97 = .ok (.iload 4, 2) := by decide +kernel
theorem dm_130_99 : decode (kb_ 130) 99 = .ok (.bipush (93), 2) := by decide +kernel
theorem dm_130_101 : decode (kb_ 130) 101 = .ok (.if_icmp .eq (9), 3) := by decide +kernel
theorem dm_130_104 : decode (kb_ 130) 104 = .ok (.aload_n 1, 1) := by decide +kernel
theorem dm_130_105 : decode (kb_ 130) 105 = .ok (.iload 4, 2) := by decide +kernel
theorem dm_130_107 : decode (kb_ 130) 107 = .ok (.invokevirtual 54, 3) := by decide +kernel
theorem dm_130_110 : decode (kb_ 130) 110 = .ok (.iinc 3 (1), 3) := by decide +kernel
theorem dm_130_113 : decode (kb_ 130) 113 = .ok (.goto (-107), 3) := by decide +kernel
theorem dm_130_116 : decode (kb_ 130) 116 = .ok (.return_, 1) := by decide +kernel
theorem dm_131_0 : decode (kb_ 131) 0 = .ok (.aload_n 2, 1) := by decide +kernel
theorem dm_131_1 : decode (kb_ 131) 1 = .ok (.iload_n 1, 1) := by decide +kernel
theorem dm_131_2 : decode (kb_ 131) 2 = .ok (.iconst (0), 1) := by decide +kernel
theorem dm_131_3 : decode (kb_ 131) 3 = .ok (.invokevirtual 44, 3) := by decide +kernel
theorem dm_131_6 : decode (kb_ 131) 6 = .ok (.iconst (0), 1) := by decide +kernel
theorem dm_131_7 : decode (kb_ 131) 7 = .ok (.istore_n 3, 1) := by decide +kernel
theorem dm_131_8 : decode (kb_ 131) 8 = .ok (.iload_n 3, 1) := by decide +kernel
theorem dm_131_9 : decode (kb_ 131) 9 = .ok (.aload_n 0, 1) := by decide +kernel
theorem dm_131_10 : decode (kb_ 131) 10 = .ok (.getfield 34, 3) := by decide +kernel
theorem dm_131_13 : decode (kb_ 131) 13 = .ok (.if_icmp .ge (57), 3) := by decide +kernel
theorem dm_131_16 : decode (kb_ 131) 16 = .ok (.aload_n 0, 1) := by decide +kernel
theorem dm_131_17 : decode (kb_ 131) 17 = .ok (.getfield 17, 3) := by decide +kernel
theorem dm_131_20 : decode (kb_ 131) 20 = .ok (.iload_n 3, 1) := by decide +kernel
theorem dm_131_21 : decode (kb_ 131) 21 = .ok (.aload_n 2, 1) := by decide +kernel
theorem dm_131_22 : decode (kb_ 131) 22 = .ok (.invokevirtual 50, 3) := by decide +kernel
theorem dm_131_25 : decode (kb_ 131) 25 = .ok (.iastore, 1) := by decide +kernel
theorem dm_131_26 : decode (kb_ 131) 26 = .ok (.iconst (0), 1) := by decide +kernel
theorem dm_131_27 : decode (kb_ 131) 27 = .ok (.istore 4, 2) := by decide +kernel
theorem dm_131_29 : decode (kb_ 131) 29 = .ok (.iload 4, 2) := by decide +kernel
theorem dm_131_31 : decode (kb_ 131) 31 = .ok (.aload_n 0, 1) := by decide +kernel
theorem dm_131_32 : decode (kb_ 131) 32 = .ok (.getfield 11, 3) := by decide +kernel
theorem dm_131_35 : decode (kb_ 131) 35 = .ok (.iload_n 3, 1) := by decide +kernel
theorem dm_131_36 : decode (kb_ 131) 36 = .ok (.aaload, 1) := by decide +kernel
theorem dm_131_37 : decode (kb_ 131) 37 = .ok (.invokevirtual 54, 3) := by decide +kernel
theorem dm_131_40 : decode (kb_ 131) 40 = .ok (.if_icmp .ge (24), 3) := by decide +kernel
theorem dm_131_43 : decode (kb_ 131) 43 = .ok (.aload_n 2, 1) := by decide +kernel
theorem dm_131_44 : decode (kb_ 131) 44 = .ok (.aload_n 0, 1) := by decide +kernel
theorem dm_131_45 : decode (kb_ 131) 45 = .ok (.getfield 11, 3) := by decide +kernel
theorem dm_131_48 : decode (kb_ 131) 48 = .ok (.iload_n 3, 1) := by decide +kernel
theorem dm_131_49 : decode (kb_ 131) 49 = .ok (.aaload, 1) := by decide +kernel
theorem dm_131_50 : decode (kb_ 131) 50 = .ok (.iload 4, 2) := by decide +kernel
theorem dm_131_52 : decode (kb_ 131) 52 = .ok (.invokevirtual 57, 3) := by decide +kernel
theorem dm_131_55 : decode (kb_ 131) 55 = .ok (.invokevirtual 61, 3) := by decide +kernel
theorem dm_131_58 : decode (kb_ 131) 58 = .ok (.iinc 4 (1), 3) := by decide +kernel
theorem dm_131_61 : decode (kb_ 131) 61 = .ok (.goto (-32), 3) := by decide +kernel
theorem dm_131_64 : decode (kb_ 131) 64 = .ok (.iinc 3 (1), 3) := by decide +kernel
theorem dm_131_67 : decode (kb_ 131) 67 = .ok (.goto (-59), 3) := by decide +kernel
theorem dm_131_70 : decode (kb_ 131) 70 = .ok (.aload_n 0, 1) := by decide +kernel
theorem dm_131_71 : decode (kb_ 131) 71 = .ok (.getfield 17, 3) := by decide +kernel
theorem dm_131_74 : decode (kb_ 131) 74 = .ok (.aload_n 0, 1) := by decide +kernel
theorem dm_131_75 : decode (kb_ 131) 75 = .ok (.getfield 34, 3) := by decide +kernel
theorem dm_131_78 : decode (kb_ 131) 78 = .ok (.aload_n 2, 1) := by decide +kernel
theorem dm_131_79 : decode (kb_ 131) 79 = .ok (.invokevirtual 50, 3) := by decide +kernel
theorem dm_131_82 : decode (kb_ 131) 82 = .ok (.iastore, 1) := by decide +kernel
theorem dm_131_83 : decode (kb_ 131) 83 = .ok (.aload_n 2, 1) := by decide +kernel
theorem dm_131_84 : decode (kb_ 131) 84 = .ok (.invokevirtual 65, 3) := by decide +kernel
theorem dm_131_87 : decode (kb_ 131) 87 = .ok (.aload_n 0, 1) := by decide +kernel
theorem dm_131_88 : decode (kb_ 131) 88 = .ok (.aload_n 2, 1) := by decide +kernel
theorem dm_131_89 : decode (kb_ 131) 89 = .ok (.invokevirtual 68, 3) := by decide +kernel
theorem dm_131_92 : decode (kb_ 131) 92 = .ok (.putfield 71, 3) := by decide +kernel
theorem dm_131_95 : decode (kb_ 131) 95 = .ok (.aload_n 0, 1) := by decide +kernel
theorem dm_131_96 : decode (kb_ 131) 96 = .ok (.aload_n 2, 1) := by decide +kernel
theorem dm_131_97 : decode (kb_ 131) 97 = .ok (.invokevirtual 74, 3) := by decide +kernel
theorem dm_131_100 : decode (kb_ 131) 100 = .ok (.aload_n 0, 1) := by decide +kernel
theorem dm_131_101 : decode (kb_ 131) 101 = .ok (.invokevirtual 78, 3) := by decide +kernel
theorem dm_131_104 : decode (kb_ 131) 104 = .ok (.return_, 1) := by decide +kernel
theorem dm_132_0 : decode (kb_ 132) 0 = .ok (.aload 4, 2) := by decide +kernel
theorem dm_132_2 : decode (kb_ 132) 2 = .ok (.iconst (0), 1) := by decide +kernel
theorem dm_132_3 : decode (kb_ 132) 3 = .ok (.aload_n 0, 1) := by decide +kernel
theorem dm_132_4 : decode (kb_ 132) 4 = .ok (.iload_n 1, 1) := by decide +kernel
theorem dm_132_5 : decode (kb_ 132) 5 = .ok (.iload_n 2, 1) := by decide +kernel
theorem dm_132_6 : decode (kb_ 132) 6 = .ok (.iload_n 3, 1) := by decide +kernel
theorem dm_132_7 : decode (kb_ 132) 7 = .ok (.invokevirtual 46, 3) := by decide +kernel
theorem dm_132_10 : decode (kb_ 132) 10 = .ok (.i2l, 1) := by decide +kernel
theorem dm_132_11 : decode (kb_ 132) 11 = .ok (.lastore, 1) := by decide +kernel
theorem dm_132_12 : decode (kb_ 132) 12 = .ok (.goto (11), 3) := by decide +kernel
theorem dm_132_15 : decode (kb_ 132) 15 = .ok (.astore 5, 2) := by decide +kernel
theorem dm_132_17 : decode (kb_ 132) 17 = .ok (.iconst (1), 1) := by decide +kernel
theorem dm_132_18 : decode (kb_ 132) 18 = .ok (.ireturn, 1) := by decide +kernel
theorem dm_132_19 : decode (kb_ 132) 19 = .ok (.astore 5, 2) := by decide +kernel
theorem dm_132_21 : decode (kb_ 132) 21 = .ok (.iconst (2), 1) := by decide +kernel
theorem dm_132_22 : decode (kb_ 132) 22 = .ok (.ireturn, 1) := by decide +kernel
theorem dm_132_23 : decode (kb_ 132) 23 = .ok (.iconst (0), 1) := by decide +kernel
theorem dm_132_24 : decode (kb_ 132) 24 = .ok (.ireturn, 1) := by decide +kernel
theorem dm_133_0 : decode (kb_ 133) 0 = .ok (.aload_n 2, 1) := by decide +kernel
theorem dm_133_1 : decode (kb_ 133) 1 = .ok (.iconst (0), 1) := by decide +kernel
theorem dm_133_2 : decode (kb_ 133) 2 = .ok (.aload_n 0, 1) := by decide +kernel
theorem dm_133_3 : decode (kb_ 133) 3 = .ok (.iload_n 1, 1) := by decide +kernel
theorem dm_133_4 : decode (kb_ 133) 4 = .ok (.invokevirtual 43, 3) := by decide +kernel
theorem dm_133_7 : decode (kb_ 133) 7 = .ok (.i2l, 1) := by decide +kernel
theorem dm_133_8 : decode (kb_ 133) 8 = .ok (.lastore, 1) := by decide +kernel
theorem dm_133_9 : decode (kb_ 133) 9 = .ok (.goto (9), 3) := by decide +kernel
theorem dm_133_12 : decode (kb_ 133) 12 = .ok (.astore_n 3, 1) := by decide +kernel
theorem dm_133_13 : decode (kb_ 133) 13 = .ok (.iconst (1), 1) := by decide +kernel
theorem dm_133_14 : decode (kb_ 133) 14 = .ok (.ireturn, 1) := by decide +kernel
theorem dm_133_15 : decode (kb_ 133) 15 = .ok (.astore_n 3, 1) := by decide +kernel
theorem dm_133_16 : decode (kb_ 133) 16 = .ok (.iconst (2), 1) := by decide +kernel
theorem dm_133_17 : decode (kb_ 133) 17 = .ok (.ireturn, 1) := by decide +kernel
theorem dm_133_18 : decode (kb_ 133) 18 = .ok (.iconst (0), 1) := by decide +kernel
theorem dm_133_19 : decode (kb_ 133) 19 = .ok (.ireturn, 1) := by decide +kernel
theorem dm_134_0 : decode (kb_ 134) 0 = .ok (.aload 4, 2) := by decide +kernel
theorem dm_134_2 : decode (kb_ 134) 2 = .ok (.iconst (0), 1) := by decide +kernel
theorem dm_134_3 : decode (kb_ 134) 3 = .ok (.aload_n 0, 1) := by decide +kernel
theorem dm_134_4 : decode (kb_ 134) 4 = .ok (.iload_n 1, 1) := by decide +kernel
theorem dm_134_5 : decode (kb_ 134) 5 = .ok (.iload_n 2, 1) := by decide +kernel
theorem dm_134_6 : decode (kb_ 134) 6 = .ok (.iload_n 3, 1) := by decide +kernel
theorem dm_134_7 : decode (kb_ 134) 7 = .ok (.invokevirtual 49, 3) := by decide +kernel
theorem dm_134_10 : decode (kb_ 134) 10 = .ok (.i2l, 1) := by decide +kernel
theorem dm_134_11 : decode (kb_ 134) 11 = .ok (.lastore, 1) := by decide +kernel
theorem dm_134_12 : decode (kb_ 134) 12 = .ok (.goto (11), 3) := by decide +kernel
theorem dm_134_15 : decode (kb_ 134) 15 = .ok (.astore 5, 2) := by decide +kernel
theorem dm_134_17 : decode (kb_ 134) 17 = .ok (.iconst (1), 1) := by decide +kernel
theorem dm_134_18 : decode (kb_ 134) 18 = .ok (.ireturn, 1) := by decide +kernel
theorem dm_134_19 : decode (kb_ 134) 19 = .ok (.astore 5, 2) := by decide +kernel
theorem dm_134_21 : decode (kb_ 134) 21 = .ok (.iconst (2), 1) := by decide +kernel
theorem dm_134_22 : decode (kb_ 134) 22 = .ok (.ireturn, 1) := by decide +kernel
theorem dm_134_23 : decode (kb_ 134) 23 = .ok (.iconst (0), 1) := by decide +kernel
theorem dm_134_24 : decode (kb_ 134) 24 = .ok (.ireturn, 1) := by decide +kernel
theorem dm_135_0 : decode (kb_ 135) 0 = .ok (.aload_n 3, 1) := by decide +kernel
theorem dm_135_1 : decode (kb_ 135) 1 = .ok (.iconst (0), 1) := by decide +kernel
theorem dm_135_2 : decode (kb_ 135) 2 = .ok (.aload_n 0, 1) := by decide +kernel
theorem dm_135_3 : decode (kb_ 135) 3 = .ok (.iload_n 1, 1) := by decide +kernel
theorem dm_135_4 : decode (kb_ 135) 4 = .ok (.iload_n 2, 1) := by decide +kernel
theorem dm_135_5 : decode (kb_ 135) 5 = .ok (.invokevirtual 7, 3) := by decide +kernel
theorem dm_135_8 : decode (kb_ 135) 8 = .ok (.i2l, 1) := by decide +kernel
theorem dm_135_9 : decode (kb_ 135) 9 = .ok (.lastore, 1) := by decide +kernel
theorem dm_135_10 : decode (kb_ 135) 10 = .ok (.goto (11), 3) := by decide +kernel
theorem dm_135_13 : decode (kb_ 135) 13 = .ok (.astore 4, 2) := by decide +kernel
theorem dm_135_15 : decode (kb_ 135) 15 = .ok (.iconst (1), 1) := by decide +kernel
theorem dm_135_16 : decode (kb_ 135) 16 = .ok (.ireturn, 1) := by decide +kernel
theorem dm_135_17 : decode (kb_ 135) 17 = .ok (.astore 4, 2) := by decide +kernel
theorem dm_135_19 : decode (kb_ 135) 19 = .ok (.iconst (2), 1) := by decide +kernel
theorem dm_135_20 : decode (kb_ 135) 20 = .ok (.ireturn, 1) := by decide +kernel
theorem dm_135_21 : decode (kb_ 135) 21 = .ok (.iconst (0), 1) := by decide +kernel
theorem dm_135_22 : decode (kb_ 135) 22 = .ok (.ireturn, 1) := by decide +kernel
theorem dm_136_0 : decode (kb_ 136) 0 = .ok (.aload_n 0, 1) := by decide +kernel
theorem dm_136_1 : decode (kb_ 136) 1 = .ok (.getfield 80, 3) := by decide +kernel
theorem dm_136_4 : decode (kb_ 136) 4 = .ok (.iload_n 1, 1) := by decide +kernel
theorem dm_136_5 : decode (kb_ 136) 5 = .ok (.iconst (0), 1) := by decide +kernel
theorem dm_136_6 : decode (kb_ 136) 6 = .ok (.iastore, 1) := by decide +kernel
theorem dm_136_7 : decode (kb_ 136) 7 = .ok (.aload_n 0, 1) := by decide +kernel
theorem dm_136_8 : decode (kb_ 136) 8 = .ok (.getfield 59, 3) := by decide +kernel
theorem dm_136_11 : decode (kb_ 136) 11 = .ok (.iconst (5), 1) := by decide +kernel
theorem dm_136_12 : decode (kb_ 136) 12 = .ok (.iload_n 1, 1) := by decide +kernel
theorem dm_136_13 : decode (kb_ 136) 13 = .ok (.imul, 1) := by decide +kernel
theorem dm_136_14 : decode (kb_ 136) 14 = .ok (.iconst (3), 1) := by decide +kernel
theorem dm_136_15 : decode (kb_ 136) 15 = .ok (.iadd, 1) := by decide +kernel
theorem dm_136_16 : decode (kb_ 136) 16 = .ok (.iconst (0), 1) := by decide +kernel
theorem dm_136_17 : decode (kb_ 136) 17 = .ok (.iastore, 1) := by decide +kernel
theorem dm_136_18 : decode (kb_ 136) 18 = .ok (.iconst (0), 1) := by decide +kernel
theorem dm_136_19 : decode (kb_ 136) 19 = .ok (.istore_n 2, 1) := by decide +kernel
theorem dm_136_20 : decode (kb_ 136) 20 = .ok (.iload_n 2, 1) := by decide +kernel
theorem dm_136_21 : decode (kb_ 136) 21 = .ok (.aload_n 0, 1) := by decide +kernel
theorem dm_136_22 : decode (kb_ 136) 22 = .ok (.getfield 110, 3) := by decide +kernel
theorem dm_136_25 : decode (kb_ 136) 25 = .ok (.if_icmp .ge (34), 3) := by decide +kernel
theorem dm_136_28 : decode (kb_ 136) 28 = .ok (.aload_n 0, 1) := by decide +kernel
theorem dm_136_29 : decode (kb_ 136) 29 = .ok (.iload_n 2, 1) := by decide +kernel
theorem dm_136_30 : decode (kb_ 136) 30 = .ok (.invokevirtual 189, 3) := by decide +kernel
theorem dm_136_33 : decode (kb_ 136) 33 = .ok (.aload_n 0, 1) := by decide +kernel
theorem dm_136_34 : decode (kb_ 136) 34 = .ok (.iload_n 1, 1) := by decide +kernel
theorem dm_136_35 : decode (kb_ 136) 35 = .ok (.iload_n 2, 1) := by decide +kernel
theorem dm_136_36 : decode (kb_ 136) 36 = .ok (.invokevirtual 192, 3) := by decide +kernel
theorem dm_136_39 : decode (kb_ 136) 39 = .ok (.ifCond .eq (12), 3) := by decide +kernel
theorem dm_136_42 : decode (kb_ 136) 42 = .ok (.aload_n 0, 1) := by decide +kernel
theorem dm_136_43 : decode (kb_ 136) 43 = .ok (.iload_n 1, 1) := by decide +kernel
theorem dm_136_44 : decode (kb_ 136) 44 = .ok (.iload_n 2, 1) := by decide +kernel
theorem dm_136_45 : decode (kb_ 136) 45 = .ok (.invokevirtual 195, 3) := by decide +kernel
theorem dm_136_48 : decode (kb_ 136) 48 = .ok (.ifCond .ne (5), 3) := by decide +kernel
theorem dm_136_51 : decode (kb_ 136) 51 = .ok (.iload_n 2, 1) := by decide +kernel
theorem dm_136_52 : decode (kb_ 136) 52 = .ok (.ireturn, 1) := by decide +kernel
theorem dm_136_53 : decode (kb_ 136) 53 = .ok (.iinc 2 (1), 3) := by decide +kernel
theorem dm_136_56 : decode (kb_ 136) 56 = .ok (.goto (-36), 3) := by decide +kernel
theorem dm_136_59 : decode (kb_ 136) 59 = .ok (.aload_n 0, 1) := by decide +kernel
theorem dm_136_60 : decode (kb_ 136) 60 = .ok (.iload_n 1, 1) := by decide +kernel
theorem dm_136_61 : decode (kb_ 136) 61 = .ok (.invokevirtual 198, 3) := by decide +kernel
theorem dm_136_64 : decode (kb_ 136) 64 = .ok (.iconst (-1), 1) := by decide +kernel
theorem dm_136_65 : decode (kb_ 136) 65 = .ok (.ireturn, 1) := by decide +kernel
theorem dm_137_0 : decode (kb_ 137) 0 = .ok (.iload_n 1, 1) := by decide +kernel
theorem dm_137_1 : decode (kb_ 137) 1 = .ok (.invokestatic 123, 3) := by decide +kernel
theorem dm_137_4 : decode (kb_ 137) 4 = .ok (.ifCond .eq (7), 3) := by decide +kernel
theorem dm_137_7 : decode (kb_ 137) 7 = .ok (.iload_n 2, 1) := by decide +kernel
theorem dm_137_8 : decode (kb_ 137) 8 = .ok (.ifCond .ge (13), 3) := by decide +kernel
theorem dm_137_11 : decode (kb_ 137) 11 = .ok (.new 106, 3) := by decide +kernel
theorem dm_137_14 : decode (kb_ 137) 14 = .ok (.dup, 1) := by decide +kernel
theorem dm_137_15 : decode (kb_ 137) 15 = .ok (.ldc 217, 2) := by decide +kernel
theorem dm_137_17 : decode (kb_ 137) 17 = .ok (.invokespecial 110, 3) := by decide +kernel
theorem dm_137_20 : decode (kb_ 137) 20 = .ok (.athrow, 1) := by decide +kernel
theorem dm_137_21 : decode (kb_ 137) 21 = .ok (.iconst (0), 1) := by decide +kernel
theorem dm_137_22 : decode (kb_ 137) 22 = .ok (.istore_n 3, 1) := by decide +kernel
theorem dm_137_23 : decode (kb_ 137) 23 = .ok (.iload_n 3, 1) := by decide +kernel
theorem dm_137_24 : decode (kb_ 137) 24 = .ok (.aload_n 0, 1) := by decide +kernel
theorem dm_137_25 : decode (kb_ 137) 25 = .ok (.getfield 111, 3) := by decide +kernel
theorem dm_137_28 : decode (kb_ 137) 28 = .ok (.if_icmp .ge (37), 3) := by decide +kernel
theorem dm_137_31 : decode (kb_ 137) 31 = .ok (.aload_n 0, 1) := by decide +kernel
theorem dm_137_32 : decode (kb_ 137) 32 = .ok (.getfield 40, 3) := by decide +kernel
theorem dm_137_35 : decode (kb_ 137) 35 = .ok (.iload_n 3, 1) := by decide +kernel
theorem dm_137_36 : decode (kb_ 137) 36 = .ok (.aaload, 1) := by decide +kernel
theorem dm_137_37 : decode (kb_ 137) 37 = .ok (.iload_n 1, 1) := by decide +kernel
theorem dm_137_38 : decode (kb_ 137) 38 = .ok (.invokevirtual 134, 3) := by decide +kernel
theorem dm_137_41 : decode (kb_ 137) 41 = .ok (.invokevirtual 64, 3) := by decide +kernel
theorem dm_137_44 : decode (kb_ 137) 44 = .ok (.ifCond .le (15), 3) := by decide +kernel
theorem dm_137_47 : decode (kb_ 137) 47 = .ok (.aload_n 0, 1) := by decide +kernel
theorem dm_137_48 : decode (kb_ 137) 48 = .ok (.iload_n 3, 1) := by decide +kernel
theorem dm_137_49 : decode (kb_ 137) 49 = .ok (.iload_n 1, 1) := by decide +kernel
theorem dm_137_50 : decode (kb_ 137) 50 = .ok (.invokevirtual 219, 3) := by decide +kernel
theorem dm_137_53 : decode (kb_ 137) 53 = .ok (.iload_n 2, 1) := by decide +kernel
theorem dm_137_54 : decode (kb_ 137) 54 = .ok (.if_icmp .ne (5), 3) := by decide +kernel
theorem dm_137_57 : decode (kb_ 137) 57 = .ok (.iload_n 3, 1) := by decide +kernel
theorem dm_137_58 : decode (kb_ 137) 58 = .ok (.ireturn, 1) := by decide +kernel
theorem dm_137_59 : decode (kb_ 137) 59 = .ok (.iinc 3 (1), 3) := by decide +kernel
theorem dm_137_62 : decode (kb_ 137) 62 = .ok (.goto (-39), 3) := by decide +kernel
theorem dm_137_65 : decode (kb_ 137) 65 = .ok (.iconst (-1), 1) := by decide +kernel
theorem dm_137_66 : decode (kb_ 137) 66 = .ok (.ireturn, 1) := by decide +kernel
theorem dm_138_0 : decode (kb_ 138) 0 = .ok (.iconst (0), 1) := by decide +kernel
theorem dm_138_1 : decode (kb_ 138) 1 = .ok (.istore 4, 2) := by decide +kernel
theorem dm_138_3 : decode (kb_ 138) 3 = .ok (.iload 4, 2) := by decide +kernel
theorem dm_138_5 : decode (kb_ 138) 5 = .ok (.iload_n 2, 1) := by decide +kernel
theorem dm_138_6 : decode (kb_ 138) 6 = .ok (.if_icmp .ge (98), 3) := by decide +kernel
theorem dm_138_9 : decode (kb_ 138) 9 = .ok (.iload 4, 2) := by decide +kernel
theorem dm_138_11 : decode (kb_ 138) 11 = .ok (.aload_n 1, 1) := by decide +kernel
theorem dm_138_12 : decode (kb_ 138) 12 = .ok (.arraylength, 1) := by decide +kernel
theorem dm_138_13 : decode (kb_ 138) 13 = .ok (.if_icmp .ge (91), 3) := by decide +kernel
theorem dm_138_16 : decode (kb_ 138) 16 = .ok (.aload_n 3, 1) := by decide +kernel
theorem dm_138_17 : decode (kb_ 138) 17 = .ok (.iload 4, 2) := by decide +kernel
theorem dm_138_19 : decode (kb_ 138) 19 = .ok (.invokevirtual 60, 3) := by decide +kernel
theorem dm_138_22 : decode (kb_ 138) 22 = .ok (.astore 5, 2) := by decide +kernel
theorem dm_138_24 : decode (kb_ 138) 24 = .ok (.aload_n 1, 1) := by decide +kernel
theorem dm_138_25 : decode (kb_ 138) 25 = .ok (.iload 4, 2) := by decide +kernel
theorem dm_138_27 : decode (kb_ 138) 27 = .ok (.aaload, 1) := by decide +kernel
theorem dm_138_28 : decode (kb_ 138) 28 = .ok (.aload_n 0, 1) := by decide +kernel
theorem dm_138_29 : decode (kb_ 138) 29 = .ok (.getfield 14, 3) := by decide +kernel
theorem dm_138_32 : decode (kb_ 138) 32 = .ok (.aload_n 0, 1) := by decide +kernel
theorem dm_138_33 : decode (kb_ 138) 33 = .ok (.getfield 27, 3) := by decide +kernel
theorem dm_138_36 : decode (kb_ 138) 36 = .ok (.invokevirtual 64, 3) := by decide +kernel
theorem dm_138_39 : decode (kb_ 138) 39 = .ok (.aload 5, 2) := by decide +kernel
theorem dm_138_41 : decode (kb_ 138) 41 = .ok (.aload_n 1, 1) := by decide +kernel
theorem dm_138_42 : decode (kb_ 138) 42 = .ok (.iload 4, 2) := by decide +kernel
theorem dm_138_44 : decode (kb_ 138) 44 = .ok (.aaload, 1) := by decide +kernel
theorem dm_138_45 : decode (kb_ 138) 45 = .ok (.invokevirtual 70, 3) := by decide +kernel
theorem dm_138_48 : decode (kb_ 138) 48 = .ok (.invokevirtual 74, 3) := by decide +kernel
theorem dm_138_51 : decode (kb_ 138) 51 = .ok (.aload 5, 2) := by decide +kernel
theorem dm_138_53 : decode (kb_ 138) 53 = .ok (.aload_n 0, 1) := by decide +kernel
theorem dm_138_54 : decode (kb_ 138) 54 = .ok (.getfield 14, 3) := by decide +kernel
theorem dm_138_57 : decode (kb_ 138) 57 = .ok (.aload_n 0, 1) := by decide +kernel
theorem dm_138_58 : decode (kb_ 138) 58 = .ok (.getfield 31, 3) := by decide +kernel
theorem dm_138_61 : decode (kb_ 138) 61 = .ok (.aload_n 0, 1) := by decide +kernel
theorem dm_138_62 : decode (kb_ 138) 62 = .ok (.getfield 23, 3) := by decide +kernel
theorem dm_138_65 : decode (kb_ 138) 65 = .ok (.invokevirtual 79, 3) := by decide +kernel
theorem dm_138_68 : decode (kb_ 138) 68 = .ok (.ifCond .eq (16), 3) := by decide +kernel
theorem dm_138_71 : decode (kb_ 138) 71 = .ok (.aload 5, 2) := by decide +kernel
theorem dm_138_73 : decode (kb_ 138) 73 = .ok (.iconst (0), 1) := by decide +kernel
theorem dm_138_74 : decode (kb_ 138) 74 = .ok (.invokevirtual 83, 3) := by decide +kernel
theorem dm_138_77 : decode (kb_ 138) 77 = .ok (.aload_n 0, 1) := by decide +kernel
theorem dm_138_78 : decode (kb_ 138) 78 = .ok (.getfield 35, 3) := by decide +kernel
theorem dm_138_81 : decode (kb_ 138) 81 = .ok (.if_icmp .le (6), 3) := by decide +kernel
theorem dm_138_84 : decode (kb_ 138) 84 = .ok (.iload 4, 2) := by decide +kernel
theorem dm_138_86 : decode (kb_ 138) 86 = .ok (.ireturn, 1) := by decide +kernel
theorem dm_138_87 : decode (kb_ 138) 87 = .ok (.aload_n 3, 1) := by decide +kernel
theorem dm_138_88 : decode (kb_ 138) 88 = .ok (.aload_n 0, 1) := by decide +kernel
theorem dm_138_89 : decode (kb_ 138) 89 = .ok (.getfield 23, 3) := by decide +kernel
theorem dm_138_92 : decode (kb_ 138) 92 = .ok (.invokevirtual 87, 3) := by decide +kernel
theorem dm_138_95 : decode (kb_ 138) 95 = .ok (.invokevirtual 90, 3) := by decide +kernel
theorem dm_138_98 : decode (kb_ 138) 98 = .ok (.iinc 4 (1), 3) := by decide +kernel
theorem dm_138_101 : decode (kb_ 138) 101 = .ok (.goto (-98), 3) := by decide +kernel
theorem dm_138_104 : decode (kb_ 138) 104 = .ok (.iconst (-1), 1) := by decide +kernel
theorem dm_138_105 : decode (kb_ 138) 105 = .ok (.ireturn, 1) := by decide +kernel
theorem dm_139_0 : decode (kb_ 139) 0 = .ok (.aload_n 3, 1) := by decide +kernel
theorem dm_139_1 : decode (kb_ 139) 1 = .ok (.iconst (0), 1) := by decide +kernel
theorem dm_139_2 : decode (kb_ 139) 2 = .ok (.aload_n 0, 1) := by decide +kernel
theorem dm_139_3 : decode (kb_ 139) 3 = .ok (.iload_n 1, 1) := by decide +kernel
theorem dm_139_4 : decode (kb_ 139) 4 = .ok (.iload_n 2, 1) := by decide +kernel
theorem dm_139_5 : decode (kb_ 139) 5 = .ok (.invokevirtual 27, 3) := by decide +kernel
theorem dm_139_8 : decode (kb_ 139) 8 = .ok (.i2l, 1) := by decide +kernel
theorem dm_139_9 : decode (kb_ 139) 9 = .ok (.lastore, 1) := by decide +kernel
theorem dm_139_10 : decode (kb_ 139) 10 = .ok (.goto (11), 3) := by decide +kernel
theorem dm_139_13 : decode (kb_ 139) 13 = .ok (.astore 4, 2) := by decide +kernel
theorem dm_139_15 : decode (kb_ 139) 15 = .ok (.iconst (1), 1) := by decide +kernel
theorem dm_139_16 : decode (kb_ 139) 16 = .ok (.ireturn, 1) := by decide +kernel
theorem dm_139_17 : decode (kb_ 139) 17 = .ok (.astore 4, 2) := by decide +kernel
theorem dm_139_19 : decode (kb_ 139) 19 = .ok (.iconst (2), 1) := by decide +kernel
theorem dm_139_20 : decode (kb_ 139) 20 = .ok (.ireturn, 1) := by decide +kernel
theorem dm_139_21 : decode (kb_ 139) 21 = .ok (.iconst (0), 1) := by decide +kernel
theorem dm_139_22 : decode (kb_ 139) 22 = .ok (.ireturn, 1) := by decide +kernel
theorem dm_140_0 : decode (kb_ 140) 0 = .ok (.aload_n 1, 1) := by decide +kernel
theorem dm_140_1 : decode (kb_ 140) 1 = .ok (.iconst (0), 1) := by decide +kernel
theorem dm_140_2 : decode (kb_ 140) 2 = .ok (.aload_n 0, 1) := by decide +kernel
theorem dm_140_3 : decode (kb_ 140) 3 = .ok (.invokevirtual 37, 3) := by decide +kernel
theorem dm_140_6 : decode (kb_ 140) 6 = .ok (.i2l, 1) := by decide +kernel
theorem dm_140_7 : decode (kb_ 140) 7 = .ok (.lastore, 1) := by decide +kernel
theorem dm_140_8 : decode (kb_ 140) 8 = .ok (.goto (6), 3) := by decide +kernel
theorem dm_140_11 : decode (kb_ 140) 11 = .ok (.astore_n 2, 1) := by decide +kernel
theorem dm_140_12 : decode (kb_ 140) 12 = .ok (.iconst (1), 1) := by decide +kernel
theorem dm_140_13 : decode (kb_ 140) 13 = .ok (.ireturn, 1) := by decide +kernel
theorem dm_140_14 : decode (kb_ 140) 14 = .ok (.iconst (0), 1) := by decide +kernel
theorem dm_140_15 : decode (kb_ 140) 15 = .ok (.ireturn, 1) := by decide +kernel
theorem dm_141_0 : decode (kb_ 141) 0 = .ok (.aload_n 1, 1) := by decide +kernel
theorem dm_141_1 : decode (kb_ 141) 1 = .ok (.iconst (0), 1) := by decide +kernel
theorem dm_141_2 : decode (kb_ 141) 2 = .ok (.aload_n 0, 1) := by decide +kernel
theorem dm_141_3 : decode (kb_ 141) 3 = .ok (.invokevirtual 17, 3) := by decide +kernel
theorem dm_141_6 : decode (kb_ 141) 6 = .ok (.i2l, 1) := by decide +kernel
theorem dm_141_7 : decode (kb_ 141) 7 = .ok (.lastore, 1) := by decide +kernel
theorem dm_141_8 : decode (kb_ 141) 8 = .ok (.goto (6), 3) := by decide +kernel
theorem dm_141_11 : decode (kb_ 141) 11 = .ok (.astore_n 2, 1) := by decide +kernel
theorem dm_141_12 : decode (kb_ 141) 12 = .ok (.iconst (1), 1) := by decide +kernel
theorem dm_141_13 : decode (kb_ 141) 13 = .ok (.ireturn, 1) := by decide +kernel
theorem dm_141_14 : decode (kb_ 141) 14 = .ok (.iconst (0), 1) := by decide +kernel
theorem dm_141_15 : decode (kb_ 141) 15 = .ok (.ireturn, 1) := by decide +kernel
theorem dm_142_0 : decode (kb_ 142) 0 = .ok (.aload_n 0, 1) := by decide +kernel
theorem dm_142_1 : decode (kb_ 142) 1 = .ok (.iconst (0), 1) := by decide +kernel
theorem dm_142_2 : decode (kb_ 142) 2 = .ok (.putfield 107, 3) := by decide +kernel
theorem dm_142_5 : decode (kb_ 142) 5 = .ok (.iconst (0), 1) := by decide +kernel
theorem dm_142_6 : decode (kb_ 142) 6 = .ok (.istore_n 1, 1) := by decide +kernel
theorem dm_142_7 : decode (kb_ 142) 7 = .ok (.iload_n 1, 1) := by decide +kernel
theorem dm_142_8 : decode (kb_ 142) 8 = .ok (.iconst (4), 1) := by decide +kernel
theorem dm_142_9 : decode (kb_ 142) 9 = .ok (.aload_n 0, 1) := by decide +kernel
theorem dm_142_10 : decode (kb_ 142) 10 = .ok (.getfield 110, 3) := by decide +kernel
theorem dm_142_13 : decode (kb_ 142) 13 = .ok (.imul, 1) := by decide +kernel
theorem dm_142_14 : decode (kb_ 142) 14 = .ok (.if_icmp .ge (24), 3) := by decide +kernel
theorem dm_142_17 : decode (kb_ 142) 17 = .ok (.aload_n 0, 1) := by decide +kernel
theorem dm_142_18 : decode (kb_ 142) 18 = .ok (.getfield 31, 3) := by decide +kernel
theorem dm_142_21 : decode (kb_ 142) 21 = .ok (.iload_n 1, 1) := by decide +kernel
theorem dm_142_22 : decode (kb_ 142) 22 = .ok (.iaload, 1) := by decide +kernel
theorem dm_142_23 : decode (kb_ 142) 23 = .ok (.ifCond .ne (9), 3) := by decide +kernel
theorem dm_142_26 : decode (kb_ 142) 26 = .ok (.iconst (-1), 1) := by decide +kernel
theorem dm_142_27 : decode (kb_ 142) 27 = .ok (.iload_n 1, 1) := by decide +kernel
theorem dm_142_28 : decode (kb_ 142) 28 = .ok (.iconst (4), 1) := by decide +kernel
theorem dm_142_29 : decode (kb_ 142) 29 = .ok (.idiv, 1) := by decide +kernel
theorem dm_142_30 : decode (kb_ 142) 30 = .ok (.isub, 1) := by decide +kernel
theorem dm_142_31 : decode (kb_ 142) 31 = .ok (.ireturn, 1) := by decide +kernel
theorem dm_142_32 : decode (kb_ 142) 32 = .ok (.iinc 1 (1), 3) := by decide +kernel
theorem dm_142_35 : decode (kb_ 142) 35 = .ok (.goto (-28), 3) := by decide +kernel
theorem dm_142_38 : decode (kb_ 142) 38 = .ok (.aload_n 0, 1) := by decide +kernel
theorem dm_142_39 : decode (kb_ 142) 39 = .ok (.getfield 52, 3) := by decide +kernel
theorem dm_142_42 : decode (kb_ 142) 42 = .ok (.ifCond .ne (7), 3) := by decide +kernel
theorem dm_142_45 : decode (kb_ 142) 45 = .ok (.iconst (1), 1) := by decide +kernel
theorem dm_142_46 : decode (kb_ 142) 46 = .ok (.goto (4), 3) := by decide +kernel
theorem dm_142_49 : decode (kb_ 142) 49 = .ok (.iconst (0), 1) := by decide +kernel
theorem dm_142_50 : decode (kb_ 142) 50 = .ok (.istore_n 1, 1) := by decide +kernel
theorem dm_142_51 : decode (kb_ 142) 51 = .ok (.iconst (0), 1) := by decide +kernel
theorem dm_142_52 : decode (kb_ 142) 52 = .ok (.istore_n 2, 1) := by decide +kernel
theorem dm_142_53 : decode (kb_ 142) 53 = .ok (.iload_n 2, 1) := by decide +kernel
theorem dm_142_54 : decode (kb_ 142) 54 = .ok (.bipush (8), 2) := by decide +kernel
theorem dm_142_56 : decode (kb_ 142) 56 = .ok (.if_icmp .ge (16), 3) := by decide +kernel
theorem dm_142_59 : decode (kb_ 142) 59 = .ok (.aload_n 0, 1) := by decide +kernel
theorem dm_142_60 : decode (kb_ 142) 60 = .ok (.getfield 65, 3) := by decide +kernel
theorem dm_142_63 : decode (kb_ 142) 63 = .ok (.iload_n 2, 1) := by decide +kernel
theorem dm_142_64 : decode (kb_ 142) 64 = .ok (.iconst (0), 1) := by decide +kernel
theorem dm_142_65 : decode (kb_ 142) 65 = .ok (.iastore, 1) := by decide +kernel
theorem dm_142_66 : decode (kb_ 142) 66 = .ok (.iinc 2 (1), 3) := by decide +kernel
theorem dm_142_69 : decode (kb_ 142) 69 = .ok (.goto (-16), 3) := by decide +kernel
theorem dm_142_72 : decode (kb_ 142) 72 = .ok (.iconst (0), 1) := by decide +kernel
theorem dm_142_73 : decode (kb_ 142) 73 = .ok (.istore_n 2, 1) := by decide +kernel
theorem dm_142_74 : decode (kb_ 142) 74 = .ok (.iconst (0), 1) := by decide +kernel
theorem dm_142_75 : decode (kb_ 142) 75 = .ok (.istore_n 3, 1) := by decide +kernel
theorem dm_142_76 : decode (kb_ 142) 76 = .ok (.iload_n 2, 1) := by decide +kernel
theorem dm_142_77 : decode (kb_ 142) 77 = .ok (.iconst (5), 1) := by decide +kernel
theorem dm_142_78 : decode (kb_ 142) 78 = .ok (.if_icmp .ge (38), 3) := by decide +kernel
theorem dm_142_81 : decode (kb_ 142) 81 = .ok (.iload_n 3, 1) := by decide +kernel
theorem dm_142_82 : decode (kb_ 142) 82 = .ok (.ifCond .ne (34), 3) := by decide +kernel
theorem dm_142_85 : decode (kb_ 142) 85 = .ok (.aload_n 0, 1) := by decide +kernel
theorem dm_142_86 : decode (kb_ 142) 86 = .ok (.iload_n 1, 1) := by decide +kernel
theorem dm_142_87 : decode (kb_ 142) 87 = .ok (.invokevirtual 201, 3) := by decide +kernel
theorem dm_142_90 : decode (kb_ 142) 90 = .ok (.istore 4, 2) := by decide +kernel
theorem dm_142_92 : decode (kb_ 142) 92 = .ok (.iload 4, 2) := by decide +kernel
theorem dm_142_94 : decode (kb_ 142) 94 = .ok (.iconst (-1), 1) := by decide +kernel
theorem dm_142_95 : decode (kb_ 142) 95 = .ok (.if_icmp .eq (9), 3) := by decide +kernel
theorem dm_142_98 : decode (kb_ 142) 98 = .ok (.bipush (-101), 2) := by decide +kernel
theorem dm_142_100 : decode (kb_ 142) 100 = .ok (.iload 4, 2) := by decide +kernel
theorem dm_142_102 : decode (kb_ 142) 102 = .ok (.isub, 1) := by decide +kernel
theorem dm_142_103 : decode (kb_ 142) 103 = .ok (.ireturn, 1) := by decide +kernel
theorem dm_142_104 : decode (kb_ 142) 104 = .ok (.aload_n 0, 1) := by decide +kernel
theorem dm_142_105 : decode (kb_ 142) 105 = .ok (.iload_n 1, 1) := by decide +kernel
theorem dm_142_106 : decode (kb_ 142) 106 = .ok (.invokevirtual 204, 3) := by decide +kernel
theorem dm_142_109 : decode (kb_ 142) 109 = .ok (.istore_n 3, 1) := by decide +kernel
theorem dm_142_110 : decode (kb_ 142) 110 = .ok (.iinc 2 (1), 3) := by decide +kernel
theorem dm_142_113 : decode (kb_ 142) 113 = .ok (.goto (-37), 3) := by decide +kernel
theorem dm_142_116 : decode (kb_ 142) 116 = .ok (.aload_n 0, 1) := by decide +kernel
theorem dm_142_117 : decode (kb_ 142) 117 = .ok (.getfield 59, 3) := by decide +kernel
theorem dm_142_120 : decode (kb_ 142) 120 = .ok (.iconst (5), 1) := by decide +kernel
theorem dm_142_121 : decode (kb_ 142) 121 = .ok (.iload_n 1, 1) := by decide +kernel
theorem dm_142_122 : decode (kb_ 142) 122 = .ok (.imul, 1) := by decide +kernel
theorem dm_142_123 : decode (kb_ 142) 123 = .ok (.iconst (1), 1) := by decide +kernel
theorem dm_142_124 : decode (kb_ 142) 124 = .ok (.iadd, 1) := by decide +kernel
theorem dm_142_125 : decode (kb_ 142) 125 = .ok (.iload_n 2, 1) := by decide +kernel
theorem dm_142_126 : decode (kb_ 142) 126 = .ok (.iastore, 1) := by decide +kernel
theorem dm_142_127 : decode (kb_ 142) 127 = .ok (.aload_n 0, 1) := by decide +kernel
theorem dm_142_128 : decode (kb_ 142) 128 = .ok (.getfield 59, 3) := by decide +kernel
theorem dm_142_131 : decode (kb_ 142) 131 = .ok (.iconst (5), 1) := by decide +kernel
theorem dm_142_132 : decode (kb_ 142) 132 = .ok (.iload_n 1, 1) := by decide +kernel
theorem dm_142_133 : decode (kb_ 142) 133 = .ok (.imul, 1) := by decide +kernel
theorem dm_142_134 : decode (kb_ 142) 134 = .ok (.iconst (2), 1) := by decide +kernel
theorem dm_142_135 : decode (kb_ 142) 135 = .ok (.iadd, 1) := by decide +kernel
theorem dm_142_136 : decode (kb_ 142) 136 = .ok (.iload_n 3, 1) := by decide +kernel
theorem dm_142_137 : decode (kb_ 142) 137 = .ok (.ifCond .eq (7), 3) := by decide +kernel
theorem dm_142_140 : decode (kb_ 142) 140 = .ok (.iconst (1), 1) := by decide +kernel
theorem dm_142_141 : decode (kb_ 142) 141 = .ok (.goto (4), 3) := by decide +kernel
theorem dm_142_144 : decode (kb_ 142) 144 = .ok (.iconst (0), 1) := by decide +kernel
theorem dm_142_145 : decode (kb_ 142) 145 = .ok (.iastore, 1) := by decide +kernel
theorem dm_142_146 : decode (kb_ 142) 146 = .ok (.aload_n 0, 1) := by decide +kernel
theorem dm_142_147 : decode (kb_ 142) 147 = .ok (.getfield 56, 3) := by decide +kernel
theorem dm_142_150 : decode (kb_ 142) 150 = .ok (.iload_n 1, 1) := by decide +kernel
theorem dm_142_151 : decode (kb_ 142) 151 = .ok (.aload_n 0, 1) := by decide +kernel
theorem dm_142_152 : decode (kb_ 142) 152 = .ok (.getfield 110, 3) := by decide +kernel
theorem dm_142_155 : decode (kb_ 142) 155 = .ok (.iastore, 1) := by decide +kernel
theorem dm_142_156 : decode (kb_ 142) 156 = .ok (.aload_n 0, 1) := by decide +kernel
theorem dm_142_157 : decode (kb_ 142) 157 = .ok (.iload_n 1, 1) := by decide +kernel
theorem dm_142_158 : decode (kb_ 142) 158 = .ok (.putfield 52, 3) := by decide +kernel
theorem dm_142_161 : decode (kb_ 142) 161 = .ok (.aload_n 0, 1) := by decide +kernel
theorem dm_142_162 : decode (kb_ 142) 162 = .ok (.getfield 59, 3) := by decide +kernel
theorem dm_142_165 : decode (kb_ 142) 165 = .ok (.iconst (5), 1) := by decide +kernel
theorem dm_142_166 : decode (kb_ 142) 166 = .ok (.iload_n 1, 1) := by decide +kernel
theorem dm_142_167 : decode (kb_ 142) 167 = .ok (.imul, 1) := by decide +kernel
theorem dm_142_168 : decode (kb_ 142) 168 = .ok (.iaload, 1) := by decide +kernel
theorem dm_142_169 : decode (kb_ 142) 169 = .ok (.ireturn, 1) := by decide +kernel
theorem dm_143_0 : decode (kb_ 143) 0 = .ok (.iconst (0), 1) := by decide +kernel
theorem dm_143_1 : decode (kb_ 143) 1 = .ok (.istore 4, 2) := by decide +kernel
theorem dm_143_3 : decode (kb_ 143) 3 = .ok (.iload 4, 2) := by decide +kernel
theorem dm_143_5 : decode (kb_ 143) 5 = .ok (.bipush (8), 2) := by decide +kernel
theorem dm_143_7 : decode (kb_ 143) 7 = .ok (.if_icmp .ge (17), 3) := by decide +kernel
theorem dm_143_10 : decode (kb_ 143) 10 = .ok (.aload_n 0, 1) := by decide +kernel
theorem dm_143_11 : decode (kb_ 143) 11 = .ok (.getfield 27, 3) := by decide +kernel
theorem dm_143_14 : decode (kb_ 143) 14 = .ok (.iload 4, 2) := by decide +kernel
theorem dm_143_16 : decode (kb_ 143) 16 = .ok (.iconst (0), 1) := by decide +kernel
theorem dm_143_17 : decode (kb_ 143) 17 = .ok (.iastore, 1) := by decide +kernel
theorem dm_143_18 : decode (kb_ 143) 18 = .ok (.iinc 4 (1), 3) := by decide +kernel
theorem dm_143_21 : decode (kb_ 143) 21 = .ok (.goto (-18), 3) := by decide +kernel
theorem dm_143_24 : decode (kb_ 143) 24 = .ok (.iconst (1), 1) := by decide +kernel
theorem dm_143_25 : decode (kb_ 143) 25 = .ok (.istore 4, 2) := by decide +kernel
theorem dm_143_27 : decode (kb_ 143) 27 = .ok (.iload 4, 2) := by decide +kernel
theorem dm_143_29 : decode (kb_ 143) 29 = .ok (.iconst (5), 1) := by decide +kernel
theorem dm_143_30 : decode (kb_ 143) 30 = .ok (.if_icmp .gt (67), 3) := by decide +kernel
theorem dm_143_33 : decode (kb_ 143) 33 = .ok (.aload_n 3, 1) := by decide +kernel
theorem dm_143_34 : decode (kb_ 143) 34 = .ok (.iload_n 2, 1) := by decide +kernel
theorem dm_143_35 : decode (kb_ 143) 35 = .ok (.iload 4, 2) := by decide +kernel
theorem dm_143_37 : decode (kb_ 143) 37 = .ok (.invokevirtual 38, 3) := by decide +kernel
theorem dm_143_40 : decode (kb_ 143) 40 = .ok (.aload_n 0, 1) := by decide +kernel
theorem dm_143_41 : decode (kb_ 143) 41 = .ok (.aload_n 1, 1) := by decide +kernel
theorem dm_143_42 : decode (kb_ 143) 42 = .ok (.iload_n 2, 1) := by decide +kernel
theorem dm_143_43 : decode (kb_ 143) 43 = .ok (.aload_n 3, 1) := by decide +kernel
theorem dm_143_44 : decode (kb_ 143) 44 = .ok (.invokevirtual 44, 3) := by decide +kernel
theorem dm_143_47 : decode (kb_ 143) 47 = .ok (.istore 5, 2) := by decide +kernel
theorem dm_143_49 : decode (kb_ 143) 49 = .ok (.iload 5, 2) := by decide +kernel
theorem dm_143_51 : decode (kb_ 143) 51 = .ok (.iconst (-1), 1) := by decide +kernel
theorem dm_143_52 : decode (kb_ 143) 52 = .ok (.if_icmp .eq (6), 3) := by decide +kernel
theorem dm_143_55 : decode (kb_ 143) 55 = .ok (.iload 5, 2) := by decide +kernel
theorem dm_143_57 : decode (kb_ 143) 57 = .ok (.ireturn, 1) := by decide +kernel
theorem dm_143_58 : decode (kb_ 143) 58 = .ok (.aload_n 3, 1) := by decide +kernel
theorem dm_143_59 : decode (kb_ 143) 59 = .ok (.aload_n 0, 1) := by decide +kernel
theorem dm_143_60 : decode (kb_ 143) 60 = .ok (.getfield 35, 3) := by decide +kernel
theorem dm_143_63 : decode (kb_ 143) 63 = .ok (.aload_n 0, 1) := by decide +kernel
theorem dm_143_64 : decode (kb_ 143) 64 = .ok (.getfield 23, 3) := by decide +kernel
theorem dm_143_67 : decode (kb_ 143) 67 = .ok (.invokevirtual 48, 3) := by decide +kernel
theorem dm_143_70 : decode (kb_ 143) 70 = .ok (.aload_n 3, 1) := by decide +kernel
theorem dm_143_71 : decode (kb_ 143) 71 = .ok (.aload_n 0, 1) := by decide +kernel
theorem dm_143_72 : decode (kb_ 143) 72 = .ok (.getfield 27, 3) := by decide +kernel
theorem dm_143_75 : decode (kb_ 143) 75 = .ok (.invokevirtual 52, 3) := by decide +kernel
theorem dm_143_78 : decode (kb_ 143) 78 = .ok (.ifCond .eq (5), 3) := by decide +kernel
theorem dm_143_81 : decode (kb_ 143) 81 = .ok (.iconst (-1), 1) := by decide +kernel
theorem dm_143_82 : decode (kb_ 143) 82 = .ok (.ireturn, 1) := by decide +kernel
theorem dm_143_83 : decode (kb_ 143) 83 = .ok (.aload_n 3, 1) := by decide +kernel
theorem dm_143_84 : decode (kb_ 143) 84 = .ok (.aload_n 0, 1) := by decide +kernel
theorem dm_143_85 : decode (kb_ 143) 85 = .ok (.getfield 27, 3) := by decide +kernel
theorem dm_143_88 : decode (kb_ 143) 88 = .ok (.invokevirtual 56, 3) := by decide +kernel
theorem dm_143_91 : decode (kb_ 143) 91 = .ok (.iinc 4 (1), 3) := by decide +kernel
theorem dm_143_94 : decode (kb_ 143) 94 = .ok (.goto (-67), 3) := by decide +kernel
theorem dm_143_97 : decode (kb_ 143) 97 = .ok (.iconst (-1), 1) := by decide +kernel
theorem dm_143_98 : decode (kb_ 143) 98 = .ok (.ireturn, 1) := by decide +kernel
theorem dm_144_0 : decode (kb_ 144) 0 = .ok (.aload_n 3, 1) := by decide +kernel
theorem dm_144_1 : decode (kb_ 144) 1 = .ok (.iconst (0), 1) := by decide +kernel
theorem dm_144_2 : decode (kb_ 144) 2 = .ok (.aload_n 0, 1) := by decide +kernel
theorem dm_144_3 : decode (kb_ 144) 3 = .ok (.iload_n 1, 1) := by decide +kernel
theorem dm_144_4 : decode (kb_ 144) 4 = .ok (.iload_n 2, 1) := by decide +kernel
theorem dm_144_5 : decode (kb_ 144) 5 = .ok (.invokevirtual 52, 3) := by decide +kernel
theorem dm_144_8 : decode (kb_ 144) 8 = .ok (.i2l, 1) := by decide +kernel
theorem dm_144_9 : decode (kb_ 144) 9 = .ok (.lastore, 1) := by decide +kernel
theorem dm_144_10 : decode (kb_ 144) 10 = .ok (.goto (7), 3) := by decide +kernel
theorem dm_144_13 : decode (kb_ 144) 13 = .ok (.astore 4, 2) := by decide +kernel
theorem dm_144_15 : decode (kb_ 144) 15 = .ok (.iconst (1), 1) := by decide +kernel
theorem dm_144_16 : decode (kb_ 144) 16 = .ok (.ireturn, 1) := by decide +kernel
theorem dm_144_17 : decode (kb_ 144) 17 = .ok (.iconst (0), 1) := by decide +kernel
theorem dm_144_18 : decode (kb_ 144) 18 = .ok (.ireturn, 1) := by decide +kernel
theorem dm_145_0 : decode (kb_ 145) 0 = .ok (.aload_n 0, 1) := by decide +kernel
theorem dm_145_1 : decode (kb_ 145) 1 = .ok (.invokevirtual 157, 3) := by decide +kernel
theorem dm_145_4 : decode (kb_ 145) 4 = .ok (.istore_n 1, 1) := by decide +kernel
theorem dm_145_5 : decode (kb_ 145) 5 = .ok (.iload_n 1, 1) := by decide +kernel
theorem dm_145_6 : decode (kb_ 145) 6 = .ok (.iconst (-1), 1) := by decide +kernel
theorem dm_145_7 : decode (kb_ 145) 7 = .ok (.if_icmp .eq (7), 3) := by decide +kernel
