theorem dm_61_21 : decode (kb_ 61) 21 = .ok (.athrow, 1) := by decide +kernel
theorem dm_61_22 : decode (kb_ 61) 22 = .ok (.aload_n 0, 1) := by decide +kernel
theorem dm_61_23 : decode (kb_ 61) 23 = .ok (.getfield 111, 3) := by decide +kernel
theorem dm_61_26 : decode (kb_ 61) 26 = .ok (.bipush (8), 2) := by decide +kernel
theorem dm_61_28 : decode (kb_ 61) 28 = .ok (.if_icmp .lt (13), 3) := by decide +kernel
theorem dm_61_31 : decode (kb_ 61) 31 = .ok (.new 72, 3) := by decide +kernel
theorem dm_61_34 : decode (kb_ 61) 34 = .ok (.dup, 1) := by decide +kernel
theorem dm_61_35 : decode (kb_ 61) 35 = .ok (.ldc 114, 2) := by decide +kernel
theorem dm_61_37 : decode (kb_ 61) 37 = .ok (.invokespecial 76, 3) := by decide +kernel
theorem dm_61_40 : decode (kb_ 61) 40 = .ok (.athrow, 1) := by decide +kernel
theorem dm_61_41 : decode (kb_ 61) 41 = .ok (.aload_n 0, 1) := by decide +kernel
theorem dm_61_42 : decode (kb_ 61) 42 = .ok (.getfield 40, 3) := by decide +kernel
theorem dm_61_45 : decode (kb_ 61) 45 = .ok (.aload_n 0, 1) := by decide +kernel
theorem dm_61_46 : decode (kb_ 61) 46 = .ok (.getfield 111, 3) := by decide +kernel
theorem dm_61_49 : decode (kb_ 61) 49 = .ok (.aaload, 1) := by decide +kernel
theorem dm_61_50 : decode (kb_ 61) 50 = .ok (.aload_n 0, 1) := by decide +kernel
theorem dm_61_51 : decode (kb_ 61) 51 = .ok (.getfield 34, 3) := by decide +kernel
theorem dm_61_54 : decode (kb_ 61) 54 = .ok (.iload_n 1, 1) := by decide +kernel
theorem dm_61_55 : decode (kb_ 61) 55 = .ok (.aaload, 1) := by decide +kernel
theorem dm_61_56 : decode (kb_ 61) 56 = .ok (.invokevirtual 116, 3) := by decide +kernel
theorem dm_61_59 : decode (kb_ 61) 59 = .ok (.aload_n 0, 1) := by decide +kernel
theorem dm_61_60 : decode (kb_ 61) 60 = .ok (.dup, 1) := by decide +kernel
theorem dm_61_61 : decode (kb_ 61) 61 = .ok (.getfield 111, 3) := by decide +kernel
theorem dm_61_64 : decode (kb_ 61) 64 = .ok (.iconst (1), 1) := by decide +kernel
theorem dm_61_65 : decode (kb_ 61) 65 = .ok (.iadd, 1) := by decide +kernel
theorem dm_61_66 : decode (kb_ 61) 66 = .ok (.putfield 111, 3) := by decide +kernel
theorem dm_61_69 : decode (kb_ 61) 69 = .ok (.aload_n 0, 1) := by decide +kernel
theorem dm_61_70 : decode (kb_ 61) 70 = .ok (.getfield 111, 3) := by decide +kernel
theorem dm_61_73 : decode (kb_ 61) 73 = .ok (.iconst (1), 1) := by decide +kernel
theorem dm_61_74 : decode (kb_ 61) 74 = .ok (.isub, 1) := by decide +kernel
theorem dm_61_75 : decode (kb_ 61) 75 = .ok (.ireturn, 1) := by decide +kernel
theorem dm_62_0 : decode (kb_ 62) 0 = .ok (.iconst (0), 1) := by decide +kernel
theorem dm_62_1 : decode (kb_ 62) 1 = .ok (.istore_n 1, 1) := by decide +kernel
theorem dm_62_2 : decode (kb_ 62) 2 = .ok (.iload_n 1, 1) := by decide +kernel
theorem dm_62_3 : decode (kb_ 62) 3 = .ok (.aload_n 0, 1) := by decide +kernel
theorem dm_62_4 : decode (kb_ 62) 4 = .ok (.getfield 111, 3) := by decide +kernel
theorem dm_62_7 : decode (kb_ 62) 7 = .ok (.if_icmp .ge (23), 3) := by decide +kernel
theorem dm_62_10 : decode (kb_ 62) 10 = .ok (.aload_n 0, 1) := by decide +kernel
theorem dm_62_11 : decode (kb_ 62) 11 = .ok (.getfield 40, 3) := by decide +kernel
theorem dm_62_14 : decode (kb_ 62) 14 = .ok (.iload_n 1, 1) := by decide +kernel
theorem dm_62_15 : decode (kb_ 62) 15 = .ok (.aaload, 1) := by decide +kernel
theorem dm_62_16 : decode (kb_ 62) 16 = .ok (.invokevirtual 242, 3) := by decide +kernel
theorem dm_62_19 : decode (kb_ 62) 19 = .ok (.ifCond .eq (5), 3) := by decide +kernel
theorem dm_62_22 : decode (kb_ 62) 22 = .ok (.iload_n 1, 1) := by decide +kernel
theorem dm_62_23 : decode (kb_ 62) 23 = .ok (.ireturn, 1) := by decide +kernel
theorem dm_62_24 : decode (kb_ 62) 24 = .ok (.iinc 1 (1), 3) := by decide +kernel
theorem dm_62_27 : decode (kb_ 62) 27 = .ok (.goto (-25), 3) := by decide +kernel
theorem dm_62_30 : decode (kb_ 62) 30 = .ok (.iconst (-1), 1) := by decide +kernel
theorem dm_62_31 : decode (kb_ 62) 31 = .ok (.ireturn, 1) := by decide +kernel
theorem dm_63_0 : decode (kb_ 63) 0 = .ok (.iconst (0), 1) := by decide +kernel
theorem dm_63_1 : decode (kb_ 63) 1 = .ok (.istore_n 1, 1) := by decide +kernel
theorem dm_63_2 : decode (kb_ 63) 2 = .ok (.iconst (0), 1) := by decide +kernel
theorem dm_63_3 : decode (kb_ 63) 3 = .ok (.istore_n 2, 1) := by decide +kernel
theorem dm_63_4 : decode (kb_ 63) 4 = .ok (.iconst (0), 1) := by decide +kernel
theorem dm_63_5 : decode (kb_ 63) 5 = .ok (.istore_n 3, 1) := by decide +kernel
theorem dm_63_6 : decode (kb_ 63) 6 = .ok (.iconst (0), 1) := by decide +kernel
theorem dm_63_7 : decode (kb_ 63) 7 = .ok (.istore 4, 2) := by decide +kernel
theorem dm_63_9 : decode (kb_ 63) 9 = .ok (.iload 4, 2) := by decide +kernel
theorem dm_63_11 : decode (kb_ 63) 11 = .ok (.aload_n 0, 1) := by decide +kernel
theorem dm_63_12 : decode (kb_ 63) 12 = .ok (.invokevirtual 64, 3) := by decide +kernel
theorem dm_63_15 : decode (kb_ 63) 15 = .ok (.if_icmp .ge (150), 3) := by decide +kernel
theorem dm_63_18 : decode (kb_ 63) 18 = .ok (.aload_n 0, 1) := by decide +kernel
theorem dm_63_19 : decode (kb_ 63) 19 = .ok (.iload 4, 2) := by decide +kernel
theorem dm_63_21 : decode (kb_ 63) 21 = .ok (.invokevirtual 233, 3) := by decide +kernel
theorem dm_63_24 : decode (kb_ 63) 24 = .ok (.istore 5, 2) := by decide +kernel
theorem dm_63_26 : decode (kb_ 63) 26 = .ok (.iload_n 3, 1) := by decide +kernel
theorem dm_63_27 : decode (kb_ 63) 27 = .ok (.ifCond .eq (24), 3) := by decide +kernel
theorem dm_63_30 : decode (kb_ 63) 30 = .ok (.iload 5, 2) := by decide +kernel
theorem dm_63_32 : decode (kb_ 63) 32 = .ok (.bipush (48), 2) := by decide +kernel
theorem dm_63_34 : decode (kb_ 63) 34 = .ok (.if_icmp .lt (9), 3) := by decide +kernel
theorem dm_63_37 : decode (kb_ 63) 37 = .ok (.iload 5, 2) := by decide +kernel
theorem dm_63_39 : decode (kb_ 63) 39 = .ok (.iload_n 3, 1) := by decide +kernel
theorem dm_63_40 : decode (kb_ 63) 40 = .ok (.if_icmp .le (6), 3) := by decide +kernel
theorem dm_63_43 : decode (kb_ 63) 43 = .ok (.iload 4, 2) := by decide +kernel
theorem dm_63_45 : decode (kb_ 63) 45 = .ok (.ireturn, 1) := by decide +kernel
theorem dm_63_46 : decode (kb_ 63) 46 = .ok (.iconst (0), 1) := by decide +kernel
theorem dm_63_47 : decode (kb_ 63) 47 = .ok (.istore_n 3, 1) := by decide +kernel
theorem dm_63_48 : decode (kb_ 63) 48 = .ok (.goto (111), 3) := by decide +kernel
theorem dm_63_51 : decode (kb_ 63) 51 = .ok (.iload 5, 2) := by decide +kernel
theorem dm_63_53 : decode (kb_ 63) 53 = .ok (.bipush (35), 2) := by decide +kernel
theorem dm_63_55 : decode (kb_ 63) 55 = .ok (.if_icmp .eq (10), 3) := by decide +kernel
theorem dm_63_58 : decode (kb_ 63) 58 = .ok (.iload 5, 2) := by decide +kernel
theorem dm_63_60 : decode (kb_ 63) 60 = .ok (.bipush (64), 2) := by decide +kernel
theorem dm_63_62 : decode (kb_ 63) 62 = .ok (.if_icmp .ne (33), 3) := by decide +kernel
theorem dm_63_65 : decode (kb_ 63) 65 = .ok (.iload_n 2, 1) := by decide +kernel
theorem dm_63_66 : decode (kb_ 63) 66 = .ok (.bipush (6), 2) := by decide +kernel
theorem dm_63_68 : decode (kb_ 63) 68 = .ok (.if_icmp .ne (6), 3) := by decide +kernel
theorem dm_63_71 : decode (kb_ 63) 71 = .ok (.iload 4, 2) := by decide +kernel
theorem dm_63_73 : decode (kb_ 63) 73 = .ok (.ireturn, 1) := by decide +kernel
theorem dm_63_74 : decode (kb_ 63) 74 = .ok (.iinc 2 (1), 3) := by decide +kernel
theorem dm_63_77 : decode (kb_ 63) 77 = .ok (.iload 5, 2) := by decide +kernel
theorem dm_63_79 : decode (kb_ 63) 79 = .ok (.bipush (35), 2) := by decide +kernel
theorem dm_63_81 : decode (kb_ 63) 81 = .ok (.if_icmp .ne (8), 3) := by decide +kernel
theorem dm_63_84 : decode (kb_ 63) 84 = .ok (.bipush (51), 2) := by decide +kernel
theorem dm_63_86 : decode (kb_ 63) 86 = .ok (.goto (5), 3) := by decide +kernel
theorem dm_63_89 : decode (kb_ 63) 89 = .ok (.bipush (55), 2) := by decide +kernel
theorem dm_63_91 : decode (kb_ 63) 91 = .ok (.istore_n 3, 1) := by decide +kernel
theorem dm_63_92 : decode (kb_ 63) 92 = .ok (.goto (67), 3) := by decide +kernel
theorem dm_63_95 : decode (kb_ 63) 95 = .ok (.iload 5, 2) := by decide +kernel
theorem dm_63_97 : decode (kb_ 63) 97 = .ok (.bipush (91), 2) := by decide +kernel
theorem dm_63_99 : decode (kb_ 63) 99 = .ok (.if_icmp .eq (10), 3) := by decide +kernel
theorem dm_63_102 : decode (kb_ 63) 102 = .ok (.iload 5, 2) := by decide +kernel
theorem dm_63_104 : decode (kb_ 63) 104 = .ok (.bipush (93), 2) := by decide +kernel
theorem dm_63_106 : decode (kb_ 63) 106 = .ok (.if_icmp .ne (35), 3) := by decide +kernel
theorem dm_63_109 : decode (kb_ 63) 109 = .ok (.iload_n 1, 1) := by decide +kernel
theorem dm_63_110 : decode (kb_ 63) 110 = .ok (.iload 5, 2) := by decide +kernel
theorem dm_63_112 : decode (kb_ 63) 112 = .ok (.bipush (91), 2) := by decide +kernel
theorem dm_63_114 : decode (kb_ 63) 114 = .ok (.if_icmp .ne (7), 3) := by decide +kernel
theorem dm_63_117 : decode (kb_ 63) 117 = .ok (.iconst (1), 1) := by decide +kernel
theorem dm_63_118 : decode (kb_ 63) 118 = .ok (.goto (4), 3) := by decide +kernel
theorem dm_63_121 : decode (kb_ 63) 121 = .ok (.iconst (0), 1) := by decide +kernel
theorem dm_63_122 : decode (kb_ 63) 122 = .ok (.if_icmp .ne (6), 3) := by decide +kernel
theorem dm_63_125 : decode (kb_ 63) 125 = .ok (.iload 4, 2) := by decide +kernel
theorem dm_63_127 : decode (kb_ 63) 127 = .ok (.ireturn, 1) := by decide +kernel
theorem dm_63_128 : decode (kb_ 63) 128 = .ok (.iload_n 1, 1) := by decide +kernel
theorem dm_63_129 : decode (kb_ 63) 129 = .ok (.ifCond .ne (7), 3) := by decide +kernel
theorem dm_63_132 : decode (kb_ 63) 132 = .ok (.iconst (1), 1) := by decide +kernel
theorem dm_63_133 : decode (kb_ 63) 133 = .ok (.goto (4), 3) := by decide +kernel
theorem dm_63_136 : decode (kb_ 63) 136 = .ok (.iconst (0), 1) := by decide +kernel
theorem dm_63_137 : decode (kb_ 63) 137 = .ok (.istore_n 1, 1) := by decide +kernel
theorem dm_63_138 : decode (kb_ 63) 138 = .ok (.goto (21), 3) := by decide +kernel
theorem dm_63_141 : decode (kb_ 63) 141 = .ok (.iload 5, 2) := by decide +kernel
theorem dm_63_143 : decode (kb_ 63) 143 = .ok (.bipush (32), 2) := by decide +kernel
theorem dm_63_145 : decode (kb_ 63) 145 = .ok (.if_icmp .eq (14), 3) := by decide +kernel
theorem dm_63_148 : decode (kb_ 63) 148 = .ok (.iload 5, 2) := by decide +kernel
theorem dm_63_150 : decode (kb_ 63) 150 = .ok (.invokestatic 236, 3) := by decide +kernel
theorem dm_63_153 : decode (kb_ 63) 153 = .ok (.ifCond .ne (6), 3) := by decide +kernel
theorem dm_63_156 : decode (kb_ 63) 156 = .ok (.iload 4, 2) := by decide +kernel
theorem dm_63_158 : decode (kb_ 63) 158 = .ok (.ireturn, 1) := by decide +kernel
theorem dm_63_159 : decode (kb_ 63) 159 = .ok (.iinc 4 (1), 3) := by decide +kernel
theorem dm_63_162 : decode (kb_ 63) 162 = .ok (.goto (-153), 3) := by decide +kernel
theorem dm_63_165 : decode (kb_ 63) 165 = .ok (.iload_n 1, 1) := by decide +kernel
theorem dm_63_166 : decode (kb_ 63) 166 = .ok (.ifCond .ne (7), 3) := by decide +kernel
theorem dm_63_169 : decode (kb_ 63) 169 = .ok (.iload_n 3, 1) := by decide +kernel
theorem dm_63_170 : decode (kb_ 63) 170 = .ok (.ifCond .eq (10), 3) := by decide +kernel
theorem dm_63_173 : decode (kb_ 63) 173 = .ok (.aload_n 0, 1) := by decide +kernel
theorem dm_63_174 : decode (kb_ 63) 174 = .ok (.invokevirtual 64, 3) := by decide +kernel
theorem dm_63_177 : decode (kb_ 63) 177 = .ok (.goto (4), 3) := by decide +kernel
theorem dm_63_180 : decode (kb_ 63) 180 = .ok (.iconst (-1), 1) := by decide +kernel
theorem dm_63_181 : decode (kb_ 63) 181 = .ok (.ireturn, 1) := by decide +kernel
theorem dm_64_0 : decode (kb_ 64) 0 = .ok (.iconst (0), 1) := by decide +kernel
theorem dm_64_1 : decode (kb_ 64) 1 = .ok (.istore_n 1, 1) := by decide +kernel
theorem dm_64_2 : decode (kb_ 64) 2 = .ok (.iload_n 1, 1) := by decide +kernel
theorem dm_64_3 : decode (kb_ 64) 3 = .ok (.iconst (4), 1) := by decide +kernel
theorem dm_64_4 : decode (kb_ 64) 4 = .ok (.if_icmp .ge (33), 3) := by decide +kernel
theorem dm_64_7 : decode (kb_ 64) 7 = .ok (.iload_n 0, 1) := by decide +kernel
theorem dm_64_8 : decode (kb_ 64) 8 = .ok (.iload_n 1, 1) := by decide +kernel
theorem dm_64_9 : decode (kb_ 64) 9 = .ok (.invokestatic 224, 3) := by decide +kernel
theorem dm_64_12 : decode (kb_ 64) 12 = .ok (.istore_n 2, 1) := by decide +kernel
theorem dm_64_13 : decode (kb_ 64) 13 = .ok (.iload_n 2, 1) := by decide +kernel
theorem dm_64_14 : decode (kb_ 64) 14 = .ok (.ifCond .eq (17), 3) := by decide +kernel
theorem dm_64_17 : decode (kb_ 64) 17 = .ok (.iload_n 2, 1) := by decide +kernel
theorem dm_64_18 : decode (kb_ 64) 18 = .ok (.bipush (32), 2) := by decide +kernel
theorem dm_64_20 : decode (kb_ 64) 20 = .ok (.if_icmp .lt (9), 3) := by decide +kernel
theorem dm_64_23 : decode (kb_ 64) 23 = .ok (.iload_n 2, 1) := by decide +kernel
theorem dm_64_24 : decode (kb_ 64) 24 = .ok (.bipush (126), 2) := by decide +kernel
theorem dm_64_26 : decode (kb_ 64) 26 = .ok (.if_icmp .le (5), 3) := by decide +kernel
theorem dm_64_29 : decode (kb_ 64) 29 = .ok (.iconst (0), 1) := by decide +kernel
theorem dm_64_30 : decode (kb_ 64) 30 = .ok (.ireturn, 1) := by decide +kernel
theorem dm_64_31 : decode (kb_ 64) 31 = .ok (.iinc 1 (1), 3) := by decide +kernel
theorem dm_64_34 : decode (kb_ 64) 34 = .ok (.goto (-32), 3) := by decide +kernel
theorem dm_64_37 : decode (kb_ 64) 37 = .ok (.iconst (1), 1) := by decide +kernel
theorem dm_64_38 : decode (kb_ 64) 38 = .ok (.ireturn, 1) := by decide +kernel
theorem dm_65_0 : decode (kb_ 65) 0 = .ok (.iconst (0), 1) := by decide +kernel
theorem dm_65_1 : decode (kb_ 65) 1 = .ok (.istore_n 1, 1) := by decide +kernel
theorem dm_65_2 : decode (kb_ 65) 2 = .ok (.iload_n 1, 1) := by decide +kernel
theorem dm_65_3 : decode (kb_ 65) 3 = .ok (.aload_n 0, 1) := by decide +kernel
theorem dm_65_4 : decode (kb_ 65) 4 = .ok (.invokevirtual 64, 3) := by decide +kernel
theorem dm_65_7 : decode (kb_ 65) 7 = .ok (.if_icmp .ge (30), 3) := by decide +kernel
theorem dm_65_10 : decode (kb_ 65) 10 = .ok (.aload_n 0, 1) := by decide +kernel
theorem dm_65_11 : decode (kb_ 65) 11 = .ok (.iload_n 1, 1) := by decide +kernel
theorem dm_65_12 : decode (kb_ 65) 12 = .ok (.invokevirtual 233, 3) := by decide +kernel
theorem dm_65_15 : decode (kb_ 65) 15 = .ok (.istore_n 2, 1) := by decide +kernel
theorem dm_65_16 : decode (kb_ 65) 16 = .ok (.iload_n 2, 1) := by decide +kernel
theorem dm_65_17 : decode (kb_ 65) 17 = .ok (.bipush (32), 2) := by decide +kernel
theorem dm_65_19 : decode (kb_ 65) 19 = .ok (.if_icmp .eq (12), 3) := by decide +kernel
theorem dm_65_22 : decode (kb_ 65) 22 = .ok (.iload_n 2, 1) := by decide +kernel
theorem dm_65_23 : decode (kb_ 65) 23 = .ok (.invokestatic 236, 3) := by decide +kernel
theorem dm_65_26 : decode (kb_ 65) 26 = .ok (.ifCond .ne (5), 3) := by decide +kernel
theorem dm_65_29 : decode (kb_ 65) 29 = .ok (.iconst (0), 1) := by decide +kernel
theorem dm_65_30 : decode (kb_ 65) 30 = .ok (.ireturn, 1) := by decide +kernel
theorem dm_65_31 : decode (kb_ 65) 31 = .ok (.iinc 1 (1), 3) := by decide +kernel
theorem dm_65_34 : decode (kb_ 65) 34 = .ok (.goto (-32), 3) := by decide +kernel
theorem dm_65_37 : decode (kb_ 65) 37 = .ok (.iconst (1), 1) := by decide +kernel
theorem dm_65_38 : decode (kb_ 65) 38 = .ok (.ireturn, 1) := by decide +kernel
theorem dm_66_0 : decode (kb_ 66) 0 = .ok (.iconst (0), 1) := by decide +kernel
theorem dm_66_1 : decode (kb_ 66) 1 = .ok (.istore_n 1, 1) := by decide +kernel
theorem dm_66_2 : decode (kb_ 66) 2 = .ok (.iload_n 1, 1) := by decide +kernel
theorem dm_66_3 : decode (kb_ 66) 3 = .ok (.aload_n 0, 1) := by decide +kernel
theorem dm_66_4 : decode (kb_ 66) 4 = .ok (.invokevirtual 64, 3) := by decide +kernel
theorem dm_66_7 : decode (kb_ 66) 7 = .ok (.if_icmp .ge (35), 3) := by decide +kernel
theorem dm_66_10 : decode (kb_ 66) 10 = .ok (.aload_n 0, 1) := by decide +kernel
theorem dm_66_11 : decode (kb_ 66) 11 = .ok (.iload_n 1, 1) := by decide +kernel
theorem dm_66_12 : decode (kb_ 66) 12 = .ok (.invokevirtual 233, 3) := by decide +kernel
theorem dm_66_15 : decode (kb_ 66) 15 = .ok (.invokestatic 236, 3) := by decide +kernel
theorem dm_66_18 : decode (kb_ 66) 18 = .ok (.ifCond .eq (16), 3) := by decide +kernel
theorem dm_66_21 : decode (kb_ 66) 21 = .ok (.aload_n 0, 1) := by decide +kernel
theorem dm_66_22 : decode (kb_ 66) 22 = .ok (.aload_n 0, 1) := by decide +kernel
theorem dm_66_23 : decode (kb_ 66) 23 = .ok (.iload_n 1, 1) := by decide +kernel
theorem dm_66_24 : decode (kb_ 66) 24 = .ok (.invokevirtual 233, 3) := by decide +kernel
theorem dm_66_27 : decode (kb_ 66) 27 = .ok (.invokevirtual 239, 3) := by decide +kernel
theorem dm_66_30 : decode (kb_ 66) 30 = .ok (.iload_n 1, 1) := by decide +kernel
theorem dm_66_31 : decode (kb_ 66) 31 = .ok (.if_icmp .eq (5), 3) := by decide +kernel
theorem dm_66_34 : decode (kb_ 66) 34 = .ok (.iconst (0), 1) := by decide +kernel
theorem dm_66_35 : decode (kb_ 66) 35 = .ok (.ireturn, 1) := by decide +kernel
theorem dm_66_36 : decode (kb_ 66) 36 = .ok (.iinc 1 (1), 3) := by decide +kernel
theorem dm_66_39 : decode (kb_ 66) 39 = .ok (.goto (-37), 3) := by decide +kernel
theorem dm_66_42 : decode (kb_ 66) 42 = .ok (.iconst (1), 1) := by decide +kernel
theorem dm_66_43 : decode (kb_ 66) 43 = .ok (.ireturn, 1) := by decide +kernel
theorem dm_67_0 : decode (kb_ 67) 0 = .ok (.aload_n 0, 1) := by decide +kernel
theorem dm_67_1 : decode (kb_ 67) 1 = .ok (.iload_n 1, 1) := by decide +kernel
theorem dm_67_2 : decode (kb_ 67) 2 = .ok (.invokevirtual 120, 3) := by decide +kernel
theorem dm_67_5 : decode (kb_ 67) 5 = .ok (.ifCond .ne (13), 3) := by decide +kernel
theorem dm_67_8 : decode (kb_ 67) 8 = .ok (.new 106, 3) := by decide +kernel
theorem dm_67_11 : decode (kb_ 67) 11 = .ok (.dup, 1) := by decide +kernel
theorem dm_67_12 : decode (kb_ 67) 12 = .ok (.ldc 145, 2) := by decide +kernel
theorem dm_67_14 : decode (kb_ 67) 14 = .ok (.invokespecial 110, 3) := by decide +kernel
theorem dm_67_17 : decode (kb_ 67) 17 = .ok (.athrow, 1) := by decide +kernel
theorem dm_67_18 : decode (kb_ 67) 18 = .ok (.iload_n 2, 1) := by decide +kernel
theorem dm_67_19 : decode (kb_ 67) 19 = .ok (.ifCond .lt (9), 3) := by decide +kernel
theorem dm_67_22 : decode (kb_ 67) 22 = .ok (.iload_n 2, 1) := by decide +kernel
theorem dm_67_23 : decode (kb_ 67) 23 = .ok (.bipush (30), 2) := by decide +kernel
theorem dm_67_25 : decode (kb_ 67) 25 = .ok (.if_icmp .le (13), 3) := by decide +kernel
theorem dm_67_28 : decode (kb_ 67) 28 = .ok (.new 83, 3) := by decide +kernel
theorem dm_67_31 : decode (kb_ 67) 31 = .ok (.dup, 1) := by decide +kernel
theorem dm_67_32 : decode (kb_ 67) 32 = .ok (.ldc 147, 2) := by decide +kernel
theorem dm_67_34 : decode (kb_ 67) 34 = .ok (.invokespecial 87, 3) := by decide +kernel
theorem dm_67_37 : decode (kb_ 67) 37 = .ok (.athrow, 1) := by decide +kernel
theorem dm_67_38 : decode (kb_ 67) 38 = .ok (.aload_n 0, 1) := by decide +kernel
theorem dm_67_39 : decode (kb_ 67) 39 = .ok (.getfield 40, 3) := by decide +kernel
theorem dm_67_42 : decode (kb_ 67) 42 = .ok (.iload_n 1, 1) := by decide +kernel
theorem dm_67_43 : decode (kb_ 67) 43 = .ok (.aaload, 1) := by decide +kernel
theorem dm_67_44 : decode (kb_ 67) 44 = .ok (.iload_n 2, 1) := by decide +kernel
theorem dm_67_45 : decode (kb_ 67) 45 = .ok (.invokevirtual 149, 3) := by decide +kernel
theorem dm_67_48 : decode (kb_ 67) 48 = .ok (.ireturn, 1) := by decide +kernel
theorem dm_68_0 : decode (kb_ 68) 0 = .ok (.iload_n 1, 1) := by decide +kernel
theorem dm_68_1 : decode (kb_ 68) 1 = .ok (.bipush (32), 2) := by decide +kernel
theorem dm_68_3 : decode (kb_ 68) 3 = .ok (.if_icmp .ne (5), 3) := by decide +kernel
theorem dm_68_6 : decode (kb_ 68) 6 = .ok (.iconst (0), 1) := by decide +kernel
theorem dm_68_7 : decode (kb_ 68) 7 = .ok (.ireturn, 1) := by decide +kernel
theorem dm_68_8 : decode (kb_ 68) 8 = .ok (.aload_n 0, 1) := by decide +kernel
theorem dm_68_9 : decode (kb_ 68) 9 = .ok (.getfield 31, 3) := by decide +kernel
theorem dm_68_12 : decode (kb_ 68) 12 = .ok (.iload_n 1, 1) := by decide +kernel
theorem dm_68_13 : decode (kb_ 68) 13 = .ok (.invokevirtual 239, 3) := by decide +kernel
theorem dm_68_16 : decode (kb_ 68) 16 = .ok (.istore_n 2, 1) := by decide +kernel
theorem dm_68_17 : decode (kb_ 68) 17 = .ok (.iload_n 2, 1) := by decide +kernel
theorem dm_68_18 : decode (kb_ 68) 18 = .ok (.iconst (-1), 1) := by decide +kernel
theorem dm_68_19 : decode (kb_ 68) 19 = .ok (.if_icmp .ne (10), 3) := by decide +kernel
theorem dm_68_22 : decode (kb_ 68) 22 = .ok (.bipush (27), 2) := by decide +kernel
theorem dm_68_24 : decode (kb_ 68) 24 = .ok (.iload_n 1, 1) := by decide +kernel
theorem dm_68_25 : decode (kb_ 68) 25 = .ok (.iadd, 1) := by decide +kernel
theorem dm_68_26 : decode (kb_ 68) 26 = .ok (.goto (6), 3) := by decide +kernel
theorem dm_68_29 : decode (kb_ 68) 29 = .ok (.iconst (1), 1) := by decide +kernel
theorem dm_68_30 : decode (kb_ 68) 30 = .ok (.iload_n 2, 1) := by decide +kernel
theorem dm_68_31 : decode (kb_ 68) 31 = .ok (.iadd, 1) := by decide +kernel
theorem dm_68_32 : decode (kb_ 68) 32 = .ok (.ireturn, 1) := by decide +kernel
theorem dm_69_0 : decode (kb_ 69) 0 = .ok (.iconst (0), 1) := by decide +kernel
theorem dm_69_1 : decode (kb_ 69) 1 = .ok (.istore_n 1, 1) := by decide +kernel
theorem dm_69_2 : decode (kb_ 69) 2 = .ok (.iconst (0), 1) := by decide +kernel
theorem dm_69_3 : decode (kb_ 69) 3 = .ok (.istore_n 2, 1) := by decide +kernel
theorem dm_69_4 : decode (kb_ 69) 4 = .ok (.iload_n 2, 1) := by decide +kernel
theorem dm_69_5 : decode (kb_ 69) 5 = .ok (.iconst (4), 1) := by decide +kernel
theorem dm_69_6 : decode (kb_ 69) 6 = .ok (.if_icmp .ge (20), 3) := by decide +kernel
theorem dm_69_9 : decode (kb_ 69) 9 = .ok (.iload_n 0, 1) := by decide +kernel
theorem dm_69_10 : decode (kb_ 69) 10 = .ok (.iload_n 2, 1) := by decide +kernel
theorem dm_69_11 : decode (kb_ 69) 11 = .ok (.invokestatic 224, 3) := by decide +kernel
theorem dm_69_14 : decode (kb_ 69) 14 = .ok (.ifCond .eq (6), 3) := by decide +kernel
theorem dm_69_17 : decode (kb_ 69) 17 = .ok (.iinc 1 (1), 3) := by decide +kernel
theorem dm_69_20 : decode (kb_ 69) 20 = .ok (.iinc 2 (1), 3) := by decide +kernel
theorem dm_69_23 : decode (kb_ 69) 23 = .ok (.goto (-19), 3) := by decide +kernel
theorem dm_69_26 : decode (kb_ 69) 26 = .ok (.iload_n 1, 1) := by decide +kernel
theorem dm_69_27 : decode (kb_ 69) 27 = .ok (.ireturn, 1) := by decide +kernel
theorem dm_70_0 : decode (kb_ 70) 0 = .ok (.aload_n 0, 1) := by decide +kernel
theorem dm_70_1 : decode (kb_ 70) 1 = .ok (.invokespecial 3, 3) := by decide +kernel
theorem dm_70_4 : decode (kb_ 70) 4 = .ok (.aload_n 0, 1) := by decide +kernel
theorem dm_70_5 : decode (kb_ 70) 5 = .ok (.new 9, 3) := by decide +kernel
theorem dm_70_8 : decode (kb_ 70) 8 = .ok (.dup, 1) := by decide +kernel
theorem dm_70_9 : decode (kb_ 70) 9 = .ok (.sipush (212), 3) := by decide +kernel
theorem dm_70_12 : decode (kb_ 70) 12 = .ok (.invokespecial 11, 3) := by decide +kernel
theorem dm_70_15 : decode (kb_ 70) 15 = .ok (.putfield 14, 3) := by decide +kernel
theorem dm_70_18 : decode (kb_ 70) 18 = .ok (.aload_n 0, 1) := by decide +kernel
theorem dm_70_19 : decode (kb_ 70) 19 = .ok (.bipush (107), 2) := by decide +kernel
theorem dm_70_21 : decode (kb_ 70) 21 = .ok (.newarray .int, 2) := by decide +kernel
theorem dm_70_23 : decode (kb_ 70) 23 = .ok (.putfield 20, 3) := by decide +kernel
theorem dm_70_26 : decode (kb_ 70) 26 = .ok (.return_, 1) := by decide +kernel
theorem dm_71_0 : decode (kb_ 71) 0 = .ok (.iconst (0), 1) := by decide +kernel
theorem dm_71_1 : decode (kb_ 71) 1 = .ok (.istore_n 2, 1) := by decide +kernel
theorem dm_71_2 : decode (kb_ 71) 2 = .ok (.iconst (0), 1) := by decide +kernel
theorem dm_71_3 : decode (kb_ 71) 3 = .ok (.istore_n 3, 1) := by decide +kernel
theorem dm_71_4 : decode (kb_ 71) 4 = .ok (.iload_n 3, 1) := by decide +kernel
theorem dm_71_5 : decode (kb_ 71) 5 = .ok (.aload_n 1, 1) := by decide +kernel
theorem dm_71_6 : decode (kb_ 71) 6 = .ok (.invokevirtual 79, 3) := by decide +kernel
theorem dm_71_9 : decode (kb_ 71) 9 = .ok (.if_icmp .ge (72), 3) := by decide +kernel
theorem dm_71_12 : decode (kb_ 71) 12 = .ok (.aload_n 0, 1) := by decide +kernel
theorem dm_71_13 : decode (kb_ 71) 13 = .ok (.getfield 24, 3) := by decide +kernel
theorem dm_71_16 : decode (kb_ 71) 16 = .ok (.bipush (106), 2) := by decide +kernel
theorem dm_71_18 : decode (kb_ 71) 18 = .ok (.if_icmp .ge (63), 3) := by decide +kernel
theorem dm_71_21 : decode (kb_ 71) 21 = .ok (.aload_n 0, 1) := by decide +kernel
theorem dm_71_22 : decode (kb_ 71) 22 = .ok (.getfield 20, 3) := by decide +kernel
theorem dm_71_25 : decode (kb_ 71) 25 = .ok (.aload_n 0, 1) := by decide +kernel
theorem dm_71_26 : decode (kb_ 71) 26 = .ok (.getfield 24, 3) := by decide +kernel
theorem dm_71_29 : decode (kb_ 71) 29 = .ok (.iload_n 2, 1) := by decide +kernel
theorem dm_71_30 : decode (kb_ 71) 30 = .ok (.iastore, 1) := by decide +kernel
theorem dm_71_31 : decode (kb_ 71) 31 = .ok (.aload_n 0, 1) := by decide +kernel
theorem dm_71_32 : decode (kb_ 71) 32 = .ok (.dup, 1) := by decide +kernel
theorem dm_71_33 : decode (kb_ 71) 33 = .ok (.getfield 24, 3) := by decide +kernel
theorem dm_71_36 : decode (kb_ 71) 36 = .ok (.iconst (1), 1) := by decide +kernel
theorem dm_71_37 : decode (kb_ 71) 37 = .ok (.iadd, 1) := by decide +kernel
theorem dm_71_38 : decode (kb_ 71) 38 = .ok (.putfield 24, 3) := by decide +kernel
theorem dm_71_41 : decode (kb_ 71) 41 = .ok (.aload_n 1, 1) := by decide +kernel
theorem dm_71_42 : decode (kb_ 71) 42 = .ok (.iload_n 3, 1) := by decide +kernel
theorem dm_71_43 : decode (kb_ 71) 43 = .ok (.invokevirtual 82, 3) := by decide +kernel
theorem dm_71_46 : decode (kb_ 71) 46 = .ok (.istore 4, 2) := by decide +kernel
theorem dm_71_48 : decode (kb_ 71) 48 = .ok (.iload_n 3, 1) := by decide +kernel
theorem dm_71_49 : decode (kb_ 71) 49 = .ok (.istore 5, 2) := by decide +kernel
theorem dm_71_51 : decode (kb_ 71) 51 = .ok (.iload 5, 2) := by decide +kernel
theorem dm_71_53 : decode (kb_ 71) 53 = .ok (.iload 4, 2) := by decide +kernel
theorem dm_71_55 : decode (kb_ 71) 55 = .ok (.if_icmp .ge (20), 3) := by decide +kernel
theorem dm_71_58 : decode (kb_ 71) 58 = .ok (.iload_n 2, 1) := by decide +kernel
theorem dm_71_59 : decode (kb_ 71) 59 = .ok (.aload_n 1, 1) := by decide +kernel
theorem dm_71_60 : decode (kb_ 71) 60 = .ok (.iload 5, 2) := by decide +kernel
theorem dm_71_62 : decode (kb_ 71) 62 = .ok (.invokevirtual 85, 3) := by decide +kernel
theorem dm_71_65 : decode (kb_ 71) 65 = .ok (.iconst (1), 1) := by decide +kernel
theorem dm_71_66 : decode (kb_ 71) 66 = .ok (.iadd, 1) := by decide +kernel
theorem dm_71_67 : decode (kb_ 71) 67 = .ok (.iadd, 1) := by decide +kernel
theorem dm_71_68 : decode (kb_ 71) 68 = .ok (.istore_n 2, 1) := by decide +kernel
theorem dm_71_69 : decode (kb_ 71) 69 = .ok (.iinc 5 (1), 3) := by decide +kernel
theorem dm_71_72 : decode (kb_ 71) 72 = .ok (.goto (-21), 3) := by decide +kernel
theorem dm_71_75 : decode (kb_ 71) 75 = .ok (.iload 4, 2) := by decide +kernel
theorem dm_71_77 : decode (kb_ 71) 77 = .ok (.istore_n 3, 1) := by decide +kernel
theorem dm_71_78 : decode (kb_ 71) 78 = .ok (.goto (-74), 3) := by decide +kernel
theorem dm_71_81 : decode (kb_ 71) 81 = .ok (.aload_n 0, 1) := by decide +kernel
theorem dm_71_82 : decode (kb_ 71) 82 = .ok (.getfield 20, 3) := by decide +kernel
theorem dm_71_85 : decode (kb_ 71) 85 = .ok (.aload_n 0, 1) := by decide +kernel
theorem dm_71_86 : decode (kb_ 71) 86 = .ok (.getfield 24, 3) := by decide +kernel
theorem dm_71_89 : decode (kb_ 71) 89 = .ok (.iload_n 2, 1) := by decide +kernel
theorem dm_71_90 : decode (kb_ 71) 90 = .ok (.iastore, 1) := by decide +kernel
theorem dm_71_91 : decode (kb_ 71) 91 = .ok (.return_, 1) := by decide +kernel
theorem dm_72_0 : decode (kb_ 72) 0 = .ok (.iload_n 2, 1) := by decide +kernel
theorem dm_72_1 : decode (kb_ 72) 1 = .ok (.ifCond .lt (30), 3) := by decide +kernel
theorem dm_72_4 : decode (kb_ 72) 4 = .ok (.iload_n 2, 1) := by decide +kernel
theorem dm_72_5 : decode (kb_ 72) 5 = .ok (.aload_n 0, 1) := by decide +kernel
theorem dm_72_6 : decode (kb_ 72) 6 = .ok (.iload_n 1, 1) := by decide +kernel
theorem dm_72_7 : decode (kb_ 72) 7 = .ok (.invokevirtual 28, 3) := by decide +kernel
theorem dm_72_10 : decode (kb_ 72) 10 = .ok (.if_icmp .ge (21), 3) := by decide +kernel
theorem dm_72_13 : decode (kb_ 72) 13 = .ok (.aload_n 0, 1) := by decide +kernel
theorem dm_72_14 : decode (kb_ 72) 14 = .ok (.getfield 14, 3) := by decide +kernel
theorem dm_72_17 : decode (kb_ 72) 17 = .ok (.aload_n 0, 1) := by decide +kernel
theorem dm_72_18 : decode (kb_ 72) 18 = .ok (.getfield 20, 3) := by decide +kernel
theorem dm_72_21 : decode (kb_ 72) 21 = .ok (.iload_n 1, 1) := by decide +kernel
theorem dm_72_22 : decode (kb_ 72) 22 = .ok (.iaload, 1) := by decide +kernel
theorem dm_72_23 : decode (kb_ 72) 23 = .ok (.iload_n 2, 1) := by decide +kernel
theorem dm_72_24 : decode (kb_ 72) 24 = .ok (.iadd, 1) := by decide +kernel
theorem dm_72_25 : decode (kb_ 72) 25 = .ok (.invokevirtual 32, 3) := by decide +kernel
theorem dm_72_28 : decode (kb_ 72) 28 = .ok (.goto (4), 3) := by decide +kernel
theorem dm_72_31 : decode (kb_ 72) 31 = .ok (.iconst (0), 1) := by decide +kernel
theorem dm_72_32 : decode (kb_ 72) 32 = .ok (.ireturn, 1) := by decide +kernel
theorem dm_73_0 : decode (kb_ 73) 0 = .ok (.aload_n 0, 1) := by decide +kernel
theorem dm_73_1 : decode (kb_ 73) 1 = .ok (.getfield 14, 3) := by decide +kernel
theorem dm_73_4 : decode (kb_ 73) 4 = .ok (.invokevirtual 68, 3) := by decide +kernel
theorem dm_73_7 : decode (kb_ 73) 7 = .ok (.iconst (0), 1) := by decide +kernel
theorem dm_73_8 : decode (kb_ 73) 8 = .ok (.istore_n 3, 1) := by decide +kernel
theorem dm_73_9 : decode (kb_ 73) 9 = .ok (.iconst (0), 1) := by decide +kernel
theorem dm_73_10 : decode (kb_ 73) 10 = .ok (.istore 4, 2) := by decide +kernel
theorem dm_73_12 : decode (kb_ 73) 12 = .ok (.iload 4, 2) := by decide +kernel
theorem dm_73_14 : decode (kb_ 73) 14 = .ok (.aload_n 1, 1) := by decide +kernel
theorem dm_73_15 : decode (kb_ 73) 15 = .ok (.invokevirtual 71, 3) := by decide +kernel
theorem dm_73_18 : decode (kb_ 73) 18 = .ok (.if_icmp .ge (73), 3) := by decide +kernel
theorem dm_73_21 : decode (kb_ 73) 21 = .ok (.aload_n 1, 1) := by decide +kernel
theorem dm_73_22 : decode (kb_ 73) 22 = .ok (.iload 4, 2) := by decide +kernel
theorem dm_73_24 : decode (kb_ 73) 24 = .ok (.invokevirtual 32, 3) := by decide +kernel
theorem dm_73_27 : decode (kb_ 73) 27 = .ok (.istore 5, 2) := by decide +kernel
theorem dm_73_29 : decode (kb_ 73) 29 = .ok (.iload 5, 2) := by decide +kernel
theorem dm_73_31 : decode (kb_ 73) 31 = .ok (.bipush (32), 2) := by decide +kernel
theorem dm_73_33 : decode (kb_ 73) 33 = .ok (.if_icmp .eq (41), 3) := by decide +kernel
theorem dm_73_36 : decode (kb_ 73) 36 = .ok (.iload_n 3, 1) := by decide +kernel
theorem dm_73_37 : decode (kb_ 73) 37 = .ok (.ifCond .ne (22), 3) := by decide +kernel
theorem dm_73_40 : decode (kb_ 73) 40 = .ok (.aload_n 0, 1) := by decide +kernel
theorem dm_73_41 : decode (kb_ 73) 41 = .ok (.getfield 14, 3) := by decide +kernel
theorem dm_73_44 : decode (kb_ 73) 44 = .ok (.invokevirtual 71, 3) := by decide +kernel
theorem dm_73_47 : decode (kb_ 73) 47 = .ok (.ifCond .le (12), 3) := by decide +kernel
theorem dm_73_50 : decode (kb_ 73) 50 = .ok (.aload_n 0, 1) := by decide +kernel
theorem dm_73_51 : decode (kb_ 73) 51 = .ok (.getfield 14, 3) := by decide +kernel
theorem dm_73_54 : decode (kb_ 73) 54 = .ok (.bipush (32), 2) := by decide +kernel
theorem dm_73_56 : decode (kb_ 73) 56 = .ok (.invokevirtual 75, 3) := by decide +kernel
theorem dm_73_59 : decode (kb_ 73) 59 = .ok (.aload_n 0, 1) := by decide +kernel
theorem dm_73_60 : decode (kb_ 73) 60 = .ok (.getfield 14, 3) := by decide +kernel
theorem dm_73_63 : decode (kb_ 73) 63 = .ok (.iload 5, 2) := by decide +kernel
theorem dm_73_65 : decode (kb_ 73) 65 = .ok (.invokevirtual 75, 3) := by decide +kernel
theorem dm_73_68 : decode (kb_ 73) 68 = .ok (.iinc 3 (1), 3) := by decide +kernel
theorem dm_73_71 : decode (kb_ 73) 71 = .ok (.goto (14), 3) := by decide +kernel
theorem dm_73_74 : decode (kb_ 73) 74 = .ok (.iload_n 3, 1) := by decide +kernel
theorem dm_73_75 : decode (kb_ 73) 75 = .ok (.ifCond .le (10), 3) := by decide +kernel
theorem dm_73_78 : decode (kb_ 73) 78 = .ok (.aload_n 2, 1) := by decide +kernel
theorem dm_73_79 : decode (kb_ 73) 79 = .ok (.iload_n 3, 1) := by decide +kernel
theorem dm_73_80 : decode (kb_ 73) 80 = .ok (.invokevirtual 78, 3) := by decide +kernel
theorem dm_73_83 : decode (kb_ 73) 83 = .ok (.iconst (0), 1) := by decide +kernel
theorem dm_73_84 : decode (kb_ 73) 84 = .ok (.istore_n 3, 1) := by decide +kernel
theorem dm_73_85 : decode (kb_ 73) 85 = .ok (.iinc 4 (1), 3) := by decide +kernel
theorem dm_73_88 : decode (kb_ 73) 88 = .ok (.goto (-76), 3) := by decide +kernel
theorem dm_73_91 : decode (kb_ 73) 91 = .ok (.iload_n 3, 1) := by decide +kernel
theorem dm_73_92 : decode (kb_ 73) 92 = .ok (.ifCond .le (8), 3) := by decide +kernel
theorem dm_73_95 : decode (kb_ 73) 95 = .ok (.aload_n 2, 1) := by decide +kernel
theorem dm_73_96 : decode (kb_ 73) 96 = .ok (.iload_n 3, 1) := by decide +kernel
theorem dm_73_97 : decode (kb_ 73) 97 = .ok (.invokevirtual 78, 3) := by decide +kernel
theorem dm_73_100 : decode (kb_ 73) 100 = .ok (.return_, 1) := by decide +kernel
theorem dm_74_0 : decode (kb_ 74) 0 = .ok (.aload_n 0, 1) := by decide +kernel
theorem dm_74_1 : decode (kb_ 74) 1 = .ok (.invokespecial 3, 3) := by decide +kernel
theorem dm_74_4 : decode (kb_ 74) 4 = .ok (.aload_n 0, 1) := by decide +kernel
theorem dm_74_5 : decode (kb_ 74) 5 = .ok (.iconst (4), 1) := by decide +kernel
theorem dm_74_6 : decode (kb_ 74) 6 = .ok (.anewarray 9, 3) := by decide +kernel
theorem dm_74_9 : decode (kb_ 74) 9 = .ok (.putfield 11, 3) := by decide +kernel
theorem dm_74_12 : decode (kb_ 74) 12 = .ok (.aload_n 0, 1) := by decide +kernel
theorem dm_74_13 : decode (kb_ 74) 13 = .ok (.iconst (4), 1) := by decide +kernel
theorem dm_74_14 : decode (kb_ 74) 14 = .ok (.newarray .int, 2) := by decide +kernel
theorem dm_74_16 : decode (kb_ 74) 16 = .ok (.putfield 17, 3) := by decide +kernel
theorem dm_74_19 : decode (kb_ 74) 19 = .ok (.aload_n 0, 1) := by decide +kernel
theorem dm_74_20 : decode (kb_ 74) 20 = .ok (.new 9, 3) := by decide +kernel
theorem dm_74_23 : decode (kb_ 74) 23 = .ok (.dup, 1) := by decide +kernel
theorem dm_74_24 : decode (kb_ 74) 24 = .ok (.iconst (0), 1) := by decide +kernel
theorem dm_74_25 : decode (kb_ 74) 25 = .ok (.invokespecial 21, 3) := by decide +kernel
theorem dm_74_28 : decode (kb_ 74) 28 = .ok (.putfield 24, 3) := by decide +kernel
theorem dm_74_31 : decode (kb_ 74) 31 = .ok (.iconst (0), 1) := by decide +kernel
theorem dm_74_32 : decode (kb_ 74) 32 = .ok (.istore_n 1, 1) := by decide +kernel
theorem dm_74_33 : decode (kb_ 74) 33 = .ok (.iload_n 1, 1) := by decide +kernel
theorem dm_74_34 : decode (kb_ 74) 34 = .ok (.iconst (4), 1) := by decide +kernel
theorem dm_74_35 : decode (kb_ 74) 35 = .ok (.if_icmp .ge (24), 3) := by decide +kernel
theorem dm_74_38 : decode (kb_ 74) 38 = .ok (.aload_n 0, 1) := by decide +kernel
theorem dm_74_39 : decode (kb_ 74) 39 = .ok (.getfield 11, 3) := by decide +kernel
theorem dm_74_42 : decode (kb_ 74) 42 = .ok (.iload_n 1, 1) := by decide +kernel
theorem dm_74_43 : decode (kb_ 74) 43 = .ok (.new 9, 3) := by decide +kernel
theorem dm_74_46 : decode (kb_ 74) 46 = .ok (.dup, 1) := by decide +kernel
theorem dm_74_47 : decode (kb_ 74) 47 = .ok (.bipush (32), 2) := by decide +kernel
theorem dm_74_49 : decode (kb_ 74) 49 = .ok (.invokespecial 21, 3) := by decide +kernel
theorem dm_74_52 : decode (kb_ 74) 52 = .ok (.aastore, 1) := by decide +kernel
theorem dm_74_53 : decode (kb_ 74) 53 = .ok (.iinc 1 (1), 3) := by decide +kernel
theorem dm_74_56 : decode (kb_ 74) 56 = .ok (.goto (-23), 3) := by decide +kernel
theorem dm_74_59 : decode (kb_ 74) 59 = .ok (.iconst (0), 1) := by decide +kernel
theorem dm_74_60 : decode (kb_ 74) 60 = .ok (.istore_n 1, 1) := by decide +kernel
theorem dm_74_61 : decode (kb_ 74) 61 = .ok (.iload_n 1, 1) := by decide +kernel
theorem dm_74_62 : decode (kb_ 74) 62 = .ok (.iconst (4), 1) := by decide +kernel
theorem dm_74_63 : decode (kb_ 74) 63 = .ok (.if_icmp .ge (16), 3) := by decide +kernel
theorem dm_74_66 : decode (kb_ 74) 66 = .ok (.aload_n 0, 1) := by decide +kernel
theorem dm_74_67 : decode (kb_ 74) 67 = .ok (.getfield 17, 3) := by decide +kernel
theorem dm_74_70 : decode (kb_ 74) 70 = .ok (.iload_n 1, 1) := by decide +kernel
theorem dm_74_71 : decode (kb_ 74) 71 = .ok (.iconst (-1), 1) := by decide +kernel
theorem dm_74_72 : decode (kb_ 74) 72 = .ok (.iastore, 1) := by decide +kernel
theorem dm_74_73 : decode (kb_ 74) 73 = .ok (.iinc 1 (1), 3) := by decide +kernel
theorem dm_74_76 : decode (kb_ 74) 76 = .ok (.goto (-15), 3) := by decide +kernel
theorem dm_74_79 : decode (kb_ 74) 79 = .ok (.return_, 1) := by decide +kernel
theorem dm_75_0 : decode (kb_ 75) 0 = .ok (.iload_n 1, 1) := by decide +kernel
theorem dm_75_1 : decode (kb_ 75) 1 = .ok (.istore_n 2, 1) := by decide +kernel
theorem dm_75_2 : decode (kb_ 75) 2 = .ok (.iload_n 2, 1) := by decide +kernel
theorem dm_75_3 : decode (kb_ 75) 3 = .ok (.aload_n 0, 1) := by decide +kernel
theorem dm_75_4 : decode (kb_ 75) 4 = .ok (.getfield 24, 3) := by decide +kernel
theorem dm_75_7 : decode (kb_ 75) 7 = .ok (.invokevirtual 35, 3) := by decide +kernel
theorem dm_75_10 : decode (kb_ 75) 10 = .ok (.if_icmp .ge (24), 3) := by decide +kernel
theorem dm_75_13 : decode (kb_ 75) 13 = .ok (.aload_n 0, 1) := by decide +kernel
theorem dm_75_14 : decode (kb_ 75) 14 = .ok (.getfield 24, 3) := by decide +kernel
theorem dm_75_17 : decode (kb_ 75) 17 = .ok (.iload_n 2, 1) := by decide +kernel
theorem dm_75_18 : decode (kb_ 75) 18 = .ok (.invokevirtual 39, 3) := by decide +kernel
theorem dm_75_21 : decode (kb_ 75) 21 = .ok (.bipush (93), 2) := by decide +kernel
theorem dm_75_23 : decode (kb_ 75) 23 = .ok (.if_icmp .ne (5), 3) := by decide +kernel
theorem dm_75_26 : decode (kb_ 75) 26 = .ok (.iload_n 2, 1) := by decide +kernel
theorem dm_75_27 : decode (kb_ 75) 27 = .ok (.ireturn, 1) := by decide +kernel
theorem dm_75_28 : decode (kb_ 75) 28 = .ok (.iinc 2 (1), 3) := by decide +kernel
theorem dm_75_31 : decode (kb_ 75) 31 = .ok (.goto (-29), 3) := by decide +kernel
theorem dm_75_34 : decode (kb_ 75) 34 = .ok (.aload_n 0, 1) := by decide +kernel
theorem dm_75_35 : decode (kb_ 75) 35 = .ok (.getfield 24, 3) := by decide +kernel
theorem dm_75_38 : decode (kb_ 75) 38 = .ok (.invokevirtual 35, 3) := by decide +kernel
theorem dm_75_41 : decode (kb_ 75) 41 = .ok (.ireturn, 1) := by decide +kernel
theorem dm_76_0 : decode (kb_ 76) 0 = .ok (.iload_n 1, 1) := by decide +kernel
theorem dm_76_1 : decode (kb_ 76) 1 = .ok (.bipush (100), 2) := by decide +kernel
theorem dm_76_3 : decode (kb_ 76) 3 = .ok (.if_icmp .lt (17), 3) := by decide +kernel
theorem dm_76_6 : decode (kb_ 76) 6 = .ok (.aload_n 0, 1) := by decide +kernel
theorem dm_76_7 : decode (kb_ 76) 7 = .ok (.bipush (48), 2) := by decide +kernel
theorem dm_76_9 : decode (kb_ 76) 9 = .ok (.iload_n 1, 1) := by decide +kernel
theorem dm_76_10 : decode (kb_ 76) 10 = .ok (.bipush (100), 2) := by decide +kernel
theorem dm_76_12 : decode (kb_ 76) 12 = .ok (.idiv, 1) := by decide +kernel
theorem dm_76_13 : decode (kb_ 76) 13 = .ok (.bipush (10), 2) := by decide +kernel
theorem dm_76_15 : decode (kb_ 76) 15 = .ok (.irem, 1) := by decide +kernel
theorem dm_76_16 : decode (kb_ 76) 16 = .ok (.iadd, 1) := by decide +kernel
theorem dm_76_17 : decode (kb_ 76) 17 = .ok (.invokevirtual 54, 3) := by decide +kernel
theorem dm_76_20 : decode (kb_ 76) 20 = .ok (.iload_n 1, 1) := by decide +kernel
theorem dm_76_21 : decode (kb_ 76) 21 = .ok (.bipush (10), 2) := by decide +kernel
theorem dm_76_23 : decode (kb_ 76) 23 = .ok (.if_icmp .lt (17), 3) := by decide +kernel
theorem dm_76_26 : decode (kb_ 76) 26 = .ok (.aload_n 0, 1) := by decide +kernel
theorem dm_76_27 : decode (kb_ 76) 27 = .ok (.bipush (48), 2) := by decide +kernel
theorem dm_76_29 : decode (kb_ 76) 29 = .ok (.iload_n 1, 1) := by decide +kernel
theorem dm_76_30 : decode (kb_ 76) 30 = .ok (.bipush (10), 2) := by decide +kernel
theorem dm_76_32 : decode (kb_ 76) 32 = .ok (.idiv, 1) := by decide +kernel
theorem dm_76_33 : decode (kb_ 76) 33 = .ok (.bipush (10), 2) := by decide +kernel
theorem dm_76_35 : decode (kb_ 76) 35 = .ok (.irem, 1) := by decide +kernel
theorem dm_76_36 : decode (kb_ 76) 36 = .ok (.iadd, 1) := by decide +kernel
theorem dm_76_37 : decode (kb_ 76) 37 = .ok (.invokevirtual 54, 3) := by decide +kernel
theorem dm_76_40 : decode (kb_ 76) 40 = .ok (.aload_n 0, 1) := by decide +kernel
theorem dm_76_41 : decode (kb_ 76) 41 = .ok (.bipush (48), 2) := by decide +kernel
theorem dm_76_43 : decode (kb_ 76) 43 = .ok (.iload_n 1, 1) := by decide +kernel
theorem dm_76_44 : decode (kb_ 76) 44 = .ok (.bipush (10), 2) := by decide +kernel
theorem dm_76_46 : decode (kb_ 76) 46 = .ok (.irem, 1) := by decide +kernel
theorem dm_76_47 : decode (kb_ 76) 47 = .ok (.iadd, 1) := by decide +kernel
theorem dm_76_48 : decode (kb_ 76) 48 = .ok (.invokevirtual 54, 3) := by decide +kernel
theorem dm_76_51 : decode (kb_ 76) 51 = .ok (.return_, 1) := by decide +kernel
theorem dm_77_0 : decode (kb_ 77) 0 = .ok (.aload_n 0, 1) := by decide +kernel
theorem dm_77_1 : decode (kb_ 77) 1 = .ok (.getfield 15, 3) := by decide +kernel
theorem dm_77_4 : decode (kb_ 77) 4 = .ok (.iload_n 1, 1) := by decide +kernel
theorem dm_77_5 : decode (kb_ 77) 5 = .ok (.ldc 35, 2) := by decide +kernel
theorem dm_77_7 : decode (kb_ 77) 7 = .ok (.iastore, 1) := by decide +kernel
theorem dm_77_8 : decode (kb_ 77) 8 = .ok (.aload_n 0, 1) := by decide +kernel
theorem dm_77_9 : decode (kb_ 77) 9 = .ok (.getfield 18, 3) := by decide +kernel
theorem dm_77_12 : decode (kb_ 77) 12 = .ok (.iload_n 1, 1) := by decide +kernel
theorem dm_77_13 : decode (kb_ 77) 13 = .ok (.iload_n 1, 1) := by decide +kernel
theorem dm_77_14 : decode (kb_ 77) 14 = .ok (.iconst (1), 1) := by decide +kernel
theorem dm_77_15 : decode (kb_ 77) 15 = .ok (.iadd, 1) := by decide +kernel
theorem dm_77_16 : decode (kb_ 77) 16 = .ok (.iastore, 1) := by decide +kernel
theorem dm_77_17 : decode (kb_ 77) 17 = .ok (.aload_n 0, 1) := by decide +kernel
theorem dm_77_18 : decode (kb_ 77) 18 = .ok (.getfield 9, 3) := by decide +kernel
theorem dm_77_21 : decode (kb_ 77) 21 = .ok (.iload_n 1, 1) := by decide +kernel
theorem dm_77_22 : decode (kb_ 77) 22 = .ok (.iaload, 1) := by decide +kernel
theorem dm_77_23 : decode (kb_ 77) 23 = .ok (.istore_n 2, 1) := by decide +kernel
theorem dm_77_24 : decode (kb_ 77) 24 = .ok (.iload_n 1, 1) := by decide +kernel
theorem dm_77_25 : decode (kb_ 77) 25 = .ok (.iconst (1), 1) := by decide +kernel
theorem dm_77_26 : decode (kb_ 77) 26 = .ok (.iadd, 1) := by decide +kernel
theorem dm_77_27 : decode (kb_ 77) 27 = .ok (.istore_n 3, 1) := by decide +kernel
theorem dm_77_28 : decode (kb_ 77) 28 = .ok (.iload_n 3, 1) := by decide +kernel
theorem dm_77_29 : decode (kb_ 77) 29 = .ok (.aload_n 0, 1) := by decide +kernel
theorem dm_77_30 : decode (kb_ 77) 30 = .ok (.getfield 28, 3) := by decide +kernel
theorem dm_77_33 : decode (kb_ 77) 33 = .ok (.if_icmp .gt (90), 3) := by decide +kernel
theorem dm_77_36 : decode (kb_ 77) 36 = .ok (.iload_n 2, 1) := by decide +kernel
theorem dm_77_37 : decode (kb_ 77) 37 = .ok (.aload_n 0, 1) := by decide +kernel
theorem dm_77_38 : decode (kb_ 77) 38 = .ok (.getfield 21, 3) := by decide +kernel
theorem dm_77_41 : decode (kb_ 77) 41 = .ok (.if_icmp .gt (82), 3) := by decide +kernel
theorem dm_77_44 : decode (kb_ 77) 44 = .ok (.aload_n 0, 1) := by decide +kernel
theorem dm_77_45 : decode (kb_ 77) 45 = .ok (.getfield 21, 3) := by decide +kernel
theorem dm_77_48 : decode (kb_ 77) 48 = .ok (.iload_n 2, 1) := by decide +kernel
theorem dm_77_49 : decode (kb_ 77) 49 = .ok (.isub, 1) := by decide +kernel
theorem dm_77_50 : decode (kb_ 77) 50 = .ok (.istore 4, 2) := by decide +kernel
theorem dm_77_52 : decode (kb_ 77) 52 = .ok (.iload_n 3, 1) := by decide +kernel
theorem dm_77_53 : decode (kb_ 77) 53 = .ok (.aload_n 0, 1) := by decide +kernel
theorem dm_77_54 : decode (kb_ 77) 54 = .ok (.getfield 28, 3) := by decide +kernel
theorem dm_77_57 : decode (kb_ 77) 57 = .ok (.if_icmp .ne (7), 3) := by decide +kernel
theorem dm_77_60 : decode (kb_ 77) 60 = .ok (.iconst (0), 1) := by decide +kernel
theorem dm_77_61 : decode (kb_ 77) 61 = .ok (.goto (15), 3) := by decide +kernel
theorem dm_77_64 : decode (kb_ 77) 64 = .ok (.iload 4, 2) := by decide +kernel
theorem dm_77_66 : decode (kb_ 77) 66 = .ok (.iload 4, 2) := by decide +kernel
theorem dm_77_68 : decode (kb_ 77) 68 = .ok (.imul, 1) := by decide +kernel
theorem dm_77_69 : decode (kb_ 77) 69 = .ok (.aload_n 0, 1) := by decide +kernel
theorem dm_77_70 : decode (kb_ 77) 70 = .ok (.getfield 15, 3) := by decide +kernel
theorem dm_77_73 : decode (kb_ 77) 73 = .ok (.iload_n 3, 1) := by decide +kernel
theorem dm_77_74 : decode (kb_ 77) 74 = .ok (.iaload, 1) := by decide +kernel
theorem dm_77_75 : decode (kb_ 77) 75 = .ok (.iadd, 1) := by decide +kernel
theorem dm_77_76 : decode (kb_ 77) 76 = .ok (.istore 5, 2) := by decide +kernel
theorem dm_77_78 : decode (kb_ 77) 78 = .ok (.iload 5, 2) := by decide +kernel
theorem dm_77_80 : decode (kb_ 77) 80 = .ok (.aload_n 0, 1) := by decide +kernel
theorem dm_77_81 : decode (kb_ 77) 81 = .ok (.getfield 15, 3) := by decide +kernel
theorem dm_77_84 : decode (kb_ 77) 84 = .ok (.iload_n 1, 1) := by decide +kernel
theorem dm_77_85 : decode (kb_ 77) 85 = .ok (.iaload, 1) := by decide +kernel
theorem dm_77_86 : decode (kb_ 77) 86 = .ok (.if_icmp .ge (18), 3) := by decide +kernel
theorem dm_77_89 : decode (kb_ 77) 89 = .ok (.aload_n 0, 1) := by decide +kernel
theorem dm_77_90 : decode (kb_ 77) 90 = .ok (.getfield 15, 3) := by decide +kernel
theorem dm_77_93 : decode (kb_ 77) 93 = .ok (.iload_n 1, 1) := by decide +kernel
theorem dm_77_94 : decode (kb_ 77) 94 = .ok (.iload 5, 2) := by decide +kernel
theorem dm_77_96 : decode (kb_ 77) 96 = .ok (.iastore, 1) := by decide +kernel
theorem dm_77_97 : decode (kb_ 77) 97 = .ok (.aload_n 0, 1) := by decide +kernel
theorem dm_77_98 : decode (kb_ 77) 98 = .ok (.getfield 18, 3) := by decide +kernel
theorem dm_77_101 : decode (kb_ 77) 101 = .ok (.iload_n 1, 1) := by decide +kernel
theorem dm_77_102 : decode (kb_ 77) 102 = .ok (.iload_n 3, 1) := by decide +kernel
theorem dm_77_103 : decode (kb_ 77) 103 = .ok (.iastore, 1) := by decide +kernel
theorem dm_77_104 : decode (kb_ 77) 104 = .ok (.iload_n 2, 1) := by decide +kernel
theorem dm_77_105 : decode (kb_ 77) 105 = .ok (.aload_n 0, 1) := by decide +kernel
theorem dm_77_106 : decode (kb_ 77) 106 = .ok (.getfield 25, 3) := by decide +kernel
theorem dm_77_109 : decode (kb_ 77) 109 = .ok (.aload_n 0, 1) := by decide +kernel
theorem dm_77_110 : decode (kb_ 77) 110 = .ok (.iload_n 3, 1) := by decide +kernel
theorem dm_77_111 : decode (kb_ 77) 111 = .ok (.invokevirtual 36, 3) := by decide +kernel
theorem dm_77_114 : decode (kb_ 77) 114 = .ok (.iadd, 1) := by decide +kernel
theorem dm_77_115 : decode (kb_ 77) 115 = .ok (.iadd, 1) := by decide +kernel
theorem dm_77_116 : decode (kb_ 77) 116 = .ok (.istore_n 2, 1) := by decide +kernel
theorem dm_77_117 : decode (kb_ 77) 117 = .ok (.iinc 3 (1), 3) := by decide +kernel
theorem dm_77_120 : decode (kb_ 77) 120 = .ok (.goto (-92), 3) := by decide +kernel
theorem dm_77_123 : decode (kb_ 77) 123 = .ok (.return_, 1) := by decide +kernel
theorem dm_78_0 : decode (kb_ 78) 0 = .ok (.aload_n 0, 1) := by decide +kernel
theorem dm_78_1 : decode (kb_ 78) 1 = .ok (.invokespecial 3, 3) := by decide +kernel
theorem dm_78_4 : decode (kb_ 78) 4 = .ok (.aload_n 0, 1) := by decide +kernel
theorem dm_78_5 : decode (kb_ 78) 5 = .ok (.new 9, 3) := by decide +kernel
theorem dm_78_8 : decode (kb_ 78) 8 = .ok (.dup, 1) := by decide +kernel
theorem dm_78_9 : decode (kb_ 78) 9 = .ok (.sipush (212), 3) := by decide +kernel
theorem dm_78_12 : decode (kb_ 78) 12 = .ok (.invokespecial 11, 3) := by decide +kernel
theorem dm_78_15 : decode (kb_ 78) 15 = .ok (.putfield 14, 3) := by decide +kernel
theorem dm_78_18 : decode (kb_ 78) 18 = .ok (.aload_n 0, 1) := by decide +kernel
theorem dm_78_19 : decode (kb_ 78) 19 = .ok (.new 20, 3) := by decide +kernel
theorem dm_78_22 : decode (kb_ 78) 22 = .ok (.dup, 1) := by decide +kernel
theorem dm_78_23 : decode (kb_ 78) 23 = .ok (.invokespecial 22, 3) := by decide +kernel
theorem dm_78_26 : decode (kb_ 78) 26 = .ok (.putfield 23, 3) := by decide +kernel
theorem dm_78_29 : decode (kb_ 78) 29 = .ok (.aload_n 0, 1) := by decide +kernel
theorem dm_78_30 : decode (kb_ 78) 30 = .ok (.bipush (8), 2) := by decide +kernel
theorem dm_78_32 : decode (kb_ 78) 32 = .ok (.newarray .int, 2) := by decide +kernel
theorem dm_78_34 : decode (kb_ 78) 34 = .ok (.putfield 27, 3) := by decide +kernel
theorem dm_78_37 : decode (kb_ 78) 37 = .ok (.aload_n 0, 1) := by decide +kernel
theorem dm_78_38 : decode (kb_ 78) 38 = .ok (.iload_n 1, 1) := by decide +kernel
theorem dm_78_39 : decode (kb_ 78) 39 = .ok (.putfield 31, 3) := by decide +kernel
