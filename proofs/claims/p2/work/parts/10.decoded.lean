theorem dm_78_42 : decode (kb_ 78) 42 = .ok (.aload_n 0, 1) := by decide +kernel
theorem dm_78_43 : decode (kb_ 78) 43 = .ok (.iload_n 2, 1) := by decide +kernel
theorem dm_78_44 : decode (kb_ 78) 44 = .ok (.putfield 35, 3) := by decide +kernel
theorem dm_78_47 : decode (kb_ 78) 47 = .ok (.return_, 1) := by decide +kernel
theorem dm_79_0 : decode (kb_ 79) 0 = .ok (.iconst (0), 1) := by decide +kernel
theorem dm_79_1 : decode (kb_ 79) 1 = .ok (.istore_n 1, 1) := by decide +kernel
theorem dm_79_2 : decode (kb_ 79) 2 = .ok (.iload_n 1, 1) := by decide +kernel
theorem dm_79_3 : decode (kb_ 79) 3 = .ok (.aload_n 0, 1) := by decide +kernel
theorem dm_79_4 : decode (kb_ 79) 4 = .ok (.getfield 34, 3) := by decide +kernel
theorem dm_79_7 : decode (kb_ 79) 7 = .ok (.if_icmp .ge (41), 3) := by decide +kernel
theorem dm_79_10 : decode (kb_ 79) 10 = .ok (.aload_n 0, 1) := by decide +kernel
theorem dm_79_11 : decode (kb_ 79) 11 = .ok (.getfield 24, 3) := by decide +kernel
theorem dm_79_14 : decode (kb_ 79) 14 = .ok (.iload_n 1, 1) := by decide +kernel
theorem dm_79_15 : decode (kb_ 79) 15 = .ok (.aload_n 0, 1) := by decide +kernel
theorem dm_79_16 : decode (kb_ 79) 16 = .ok (.getfield 11, 3) := by decide +kernel
theorem dm_79_19 : decode (kb_ 79) 19 = .ok (.iload_n 1, 1) := by decide +kernel
theorem dm_79_20 : decode (kb_ 79) 20 = .ok (.aaload, 1) := by decide +kernel
theorem dm_79_21 : decode (kb_ 79) 21 = .ok (.invokevirtual 54, 3) := by decide +kernel
theorem dm_79_24 : decode (kb_ 79) 24 = .ok (.ifCond .ne (7), 3) := by decide +kernel
theorem dm_79_27 : decode (kb_ 79) 27 = .ok (.iconst (0), 1) := by decide +kernel
theorem dm_79_28 : decode (kb_ 79) 28 = .ok (.goto (13), 3) := by decide +kernel
theorem dm_79_31 : decode (kb_ 79) 31 = .ok (.aload_n 0, 1) := by decide +kernel
theorem dm_79_32 : decode (kb_ 79) 32 = .ok (.aload_n 0, 1) := by decide +kernel
theorem dm_79_33 : decode (kb_ 79) 33 = .ok (.getfield 17, 3) := by decide +kernel
theorem dm_79_36 : decode (kb_ 79) 36 = .ok (.iload_n 1, 1) := by decide +kernel
theorem dm_79_37 : decode (kb_ 79) 37 = .ok (.iaload, 1) := by decide +kernel
theorem dm_79_38 : decode (kb_ 79) 38 = .ok (.invokevirtual 107, 3) := by decide +kernel
theorem dm_79_41 : decode (kb_ 79) 41 = .ok (.iastore, 1) := by decide +kernel
theorem dm_79_42 : decode (kb_ 79) 42 = .ok (.iinc 1 (1), 3) := by decide +kernel
theorem dm_79_45 : decode (kb_ 79) 45 = .ok (.goto (-43), 3) := by decide +kernel
theorem dm_79_48 : decode (kb_ 79) 48 = .ok (.return_, 1) := by decide +kernel
theorem dm_80_0 : decode (kb_ 80) 0 = .ok (.aload_n 0, 1) := by decide +kernel
theorem dm_80_1 : decode (kb_ 80) 1 = .ok (.iload_n 1, 1) := by decide +kernel
theorem dm_80_2 : decode (kb_ 80) 2 = .ok (.invokevirtual 88, 3) := by decide +kernel
theorem dm_80_5 : decode (kb_ 80) 5 = .ok (.ifCond .ne (5), 3) := by decide +kernel
theorem dm_80_8 : decode (kb_ 80) 8 = .ok (.iconst (0), 1) := by decide +kernel
theorem dm_80_9 : decode (kb_ 80) 9 = .ok (.ireturn, 1) := by decide +kernel
theorem dm_80_10 : decode (kb_ 80) 10 = .ok (.iload_n 2, 1) := by decide +kernel
theorem dm_80_11 : decode (kb_ 80) 11 = .ok (.iconst (-1), 1) := by decide +kernel
theorem dm_80_12 : decode (kb_ 80) 12 = .ok (.if_icmp .eq (30), 3) := by decide +kernel
theorem dm_80_15 : decode (kb_ 80) 15 = .ok (.iload_n 2, 1) := by decide +kernel
theorem dm_80_16 : decode (kb_ 80) 16 = .ok (.aload_n 0, 1) := by decide +kernel
theorem dm_80_17 : decode (kb_ 80) 17 = .ok (.getfield 11, 3) := by decide +kernel
theorem dm_80_20 : decode (kb_ 80) 20 = .ok (.iload_n 1, 1) := by decide +kernel
theorem dm_80_21 : decode (kb_ 80) 21 = .ok (.aaload, 1) := by decide +kernel
theorem dm_80_22 : decode (kb_ 80) 22 = .ok (.invokevirtual 92, 3) := by decide +kernel
theorem dm_80_25 : decode (kb_ 80) 25 = .ok (.if_icmp .ge (21), 3) := by decide +kernel
theorem dm_80_28 : decode (kb_ 80) 28 = .ok (.iload_n 3, 1) := by decide +kernel
theorem dm_80_29 : decode (kb_ 80) 29 = .ok (.aload_n 0, 1) := by decide +kernel
theorem dm_80_30 : decode (kb_ 80) 30 = .ok (.getfield 11, 3) := by decide +kernel
theorem dm_80_33 : decode (kb_ 80) 33 = .ok (.iload_n 1, 1) := by decide +kernel
theorem dm_80_34 : decode (kb_ 80) 34 = .ok (.aaload, 1) := by decide +kernel
theorem dm_80_35 : decode (kb_ 80) 35 = .ok (.iload_n 2, 1) := by decide +kernel
theorem dm_80_36 : decode (kb_ 80) 36 = .ok (.invokevirtual 95, 3) := by decide +kernel
theorem dm_80_39 : decode (kb_ 80) 39 = .ok (.if_icmp .ge (7), 3) := by decide +kernel
theorem dm_80_42 : decode (kb_ 80) 42 = .ok (.iconst (1), 1) := by decide +kernel
theorem dm_80_43 : decode (kb_ 80) 43 = .ok (.goto (4), 3) := by decide +kernel
theorem dm_80_46 : decode (kb_ 80) 46 = .ok (.iconst (0), 1) := by decide +kernel
theorem dm_80_47 : decode (kb_ 80) 47 = .ok (.ireturn, 1) := by decide +kernel
theorem dm_81_0 : decode (kb_ 81) 0 = .ok (.aload_n 0, 1) := by decide +kernel
theorem dm_81_1 : decode (kb_ 81) 1 = .ok (.iconst (0), 1) := by decide +kernel
theorem dm_81_2 : decode (kb_ 81) 2 = .ok (.putfield 85, 3) := by decide +kernel
theorem dm_81_5 : decode (kb_ 81) 5 = .ok (.iconst (0), 1) := by decide +kernel
theorem dm_81_6 : decode (kb_ 81) 6 = .ok (.istore_n 2, 1) := by decide +kernel
theorem dm_81_7 : decode (kb_ 81) 7 = .ok (.iload_n 2, 1) := by decide +kernel
theorem dm_81_8 : decode (kb_ 81) 8 = .ok (.aload_n 1, 1) := by decide +kernel
theorem dm_81_9 : decode (kb_ 81) 9 = .ok (.invokevirtual 50, 3) := by decide +kernel
theorem dm_81_12 : decode (kb_ 81) 12 = .ok (.if_icmp .ge (42), 3) := by decide +kernel
theorem dm_81_15 : decode (kb_ 81) 15 = .ok (.aload_n 0, 1) := by decide +kernel
theorem dm_81_16 : decode (kb_ 81) 16 = .ok (.getfield 85, 3) := by decide +kernel
theorem dm_81_19 : decode (kb_ 81) 19 = .ok (.sipush (848), 3) := by decide +kernel
theorem dm_81_22 : decode (kb_ 81) 22 = .ok (.if_icmp .ge (32), 3) := by decide +kernel
theorem dm_81_25 : decode (kb_ 81) 25 = .ok (.aload_n 1, 1) := by decide +kernel
theorem dm_81_26 : decode (kb_ 81) 26 = .ok (.iload_n 2, 1) := by decide +kernel
theorem dm_81_27 : decode (kb_ 81) 27 = .ok (.invokevirtual 104, 3) := by decide +kernel
theorem dm_81_30 : decode (kb_ 81) 30 = .ok (.istore_n 2, 1) := by decide +kernel
theorem dm_81_31 : decode (kb_ 81) 31 = .ok (.aload_n 0, 1) := by decide +kernel
theorem dm_81_32 : decode (kb_ 81) 32 = .ok (.dup, 1) := by decide +kernel
theorem dm_81_33 : decode (kb_ 81) 33 = .ok (.getfield 85, 3) := by decide +kernel
theorem dm_81_36 : decode (kb_ 81) 36 = .ok (.iconst (1), 1) := by decide +kernel
theorem dm_81_37 : decode (kb_ 81) 37 = .ok (.iadd, 1) := by decide +kernel
theorem dm_81_38 : decode (kb_ 81) 38 = .ok (.putfield 85, 3) := by decide +kernel
theorem dm_81_41 : decode (kb_ 81) 41 = .ok (.aload_n 0, 1) := by decide +kernel
theorem dm_81_42 : decode (kb_ 81) 42 = .ok (.getfield 21, 3) := by decide +kernel
theorem dm_81_45 : decode (kb_ 81) 45 = .ok (.aload_n 0, 1) := by decide +kernel
theorem dm_81_46 : decode (kb_ 81) 46 = .ok (.getfield 85, 3) := by decide +kernel
theorem dm_81_49 : decode (kb_ 81) 49 = .ok (.iload_n 2, 1) := by decide +kernel
theorem dm_81_50 : decode (kb_ 81) 50 = .ok (.iastore, 1) := by decide +kernel
theorem dm_81_51 : decode (kb_ 81) 51 = .ok (.goto (-44), 3) := by decide +kernel
theorem dm_81_54 : decode (kb_ 81) 54 = .ok (.return_, 1) := by decide +kernel
theorem dm_82_0 : decode (kb_ 82) 0 = .ok (.iload_n 1, 1) := by decide +kernel
theorem dm_82_1 : decode (kb_ 82) 1 = .ok (.iconst (1), 1) := by decide +kernel
theorem dm_82_2 : decode (kb_ 82) 2 = .ok (.if_icmp .lt (11), 3) := by decide +kernel
theorem dm_82_5 : decode (kb_ 82) 5 = .ok (.iload_n 1, 1) := by decide +kernel
theorem dm_82_6 : decode (kb_ 82) 6 = .ok (.aload_n 0, 1) := by decide +kernel
theorem dm_82_7 : decode (kb_ 82) 7 = .ok (.getfield 85, 3) := by decide +kernel
theorem dm_82_10 : decode (kb_ 82) 10 = .ok (.if_icmp .le (5), 3) := by decide +kernel
theorem dm_82_13 : decode (kb_ 82) 13 = .ok (.iconst (-1), 1) := by decide +kernel
theorem dm_82_14 : decode (kb_ 82) 14 = .ok (.ireturn, 1) := by decide +kernel
theorem dm_82_15 : decode (kb_ 82) 15 = .ok (.iload_n 2, 1) := by decide +kernel
theorem dm_82_16 : decode (kb_ 82) 16 = .ok (.istore 4, 2) := by decide +kernel
theorem dm_82_18 : decode (kb_ 82) 18 = .ok (.aload_n 0, 1) := by decide +kernel
theorem dm_82_19 : decode (kb_ 82) 19 = .ok (.getfield 21, 3) := by decide +kernel
theorem dm_82_22 : decode (kb_ 82) 22 = .ok (.iload_n 1, 1) := by decide +kernel
theorem dm_82_23 : decode (kb_ 82) 23 = .ok (.iconst (1), 1) := by decide +kernel
theorem dm_82_24 : decode (kb_ 82) 24 = .ok (.isub, 1) := by decide +kernel
theorem dm_82_25 : decode (kb_ 82) 25 = .ok (.iaload, 1) := by decide +kernel
theorem dm_82_26 : decode (kb_ 82) 26 = .ok (.istore 5, 2) := by decide +kernel
theorem dm_82_28 : decode (kb_ 82) 28 = .ok (.iload 5, 2) := by decide +kernel
theorem dm_82_30 : decode (kb_ 82) 30 = .ok (.aload_n 0, 1) := by decide +kernel
theorem dm_82_31 : decode (kb_ 82) 31 = .ok (.getfield 21, 3) := by decide +kernel
theorem dm_82_34 : decode (kb_ 82) 34 = .ok (.iload_n 1, 1) := by decide +kernel
theorem dm_82_35 : decode (kb_ 82) 35 = .ok (.iaload, 1) := by decide +kernel
theorem dm_82_36 : decode (kb_ 82) 36 = .ok (.if_icmp .ge (81), 3) := by decide +kernel
theorem dm_82_39 : decode (kb_ 82) 39 = .ok (.aload_n 0, 1) := by decide +kernel
theorem dm_82_40 : decode (kb_ 82) 40 = .ok (.iload 5, 2) := by decide +kernel
theorem dm_82_42 : decode (kb_ 82) 42 = .ok (.invokevirtual 98, 3) := by decide +kernel
theorem dm_82_45 : decode (kb_ 82) 45 = .ok (.istore 6, 2) := by decide +kernel
theorem dm_82_47 : decode (kb_ 82) 47 = .ok (.iload 5, 2) := by decide +kernel
theorem dm_82_49 : decode (kb_ 82) 49 = .ok (.aload_n 0, 1) := by decide +kernel
theorem dm_82_50 : decode (kb_ 82) 50 = .ok (.getfield 17, 3) := by decide +kernel
theorem dm_82_53 : decode (kb_ 82) 53 = .ok (.iload 6, 2) := by decide +kernel
theorem dm_82_55 : decode (kb_ 82) 55 = .ok (.iaload, 1) := by decide +kernel
theorem dm_82_56 : decode (kb_ 82) 56 = .ok (.isub, 1) := by decide +kernel
theorem dm_82_57 : decode (kb_ 82) 57 = .ok (.istore 7, 2) := by decide +kernel
theorem dm_82_59 : decode (kb_ 82) 59 = .ok (.aload_n 0, 1) := by decide +kernel
theorem dm_82_60 : decode (kb_ 82) 60 = .ok (.getfield 11, 3) := by decide +kernel
theorem dm_82_63 : decode (kb_ 82) 63 = .ok (.iload 6, 2) := by decide +kernel
theorem dm_82_65 : decode (kb_ 82) 65 = .ok (.aaload, 1) := by decide +kernel
theorem dm_82_66 : decode (kb_ 82) 66 = .ok (.iload 7, 2) := by decide +kernel
theorem dm_82_68 : decode (kb_ 82) 68 = .ok (.invokevirtual 57, 3) := by decide +kernel
theorem dm_82_71 : decode (kb_ 82) 71 = .ok (.istore 8, 2) := by decide +kernel
theorem dm_82_73 : decode (kb_ 82) 73 = .ok (.iload 4, 2) := by decide +kernel
theorem dm_82_75 : decode (kb_ 82) 75 = .ok (.iload 8, 2) := by decide +kernel
theorem dm_82_77 : decode (kb_ 82) 77 = .ok (.if_icmp .ge (27), 3) := by decide +kernel
theorem dm_82_80 : decode (kb_ 82) 80 = .ok (.iload_n 3, 1) := by decide +kernel
theorem dm_82_81 : decode (kb_ 82) 81 = .ok (.ifCond .eq (8), 3) := by decide +kernel
theorem dm_82_84 : decode (kb_ 82) 84 = .ok (.iload 6, 2) := by decide +kernel
theorem dm_82_86 : decode (kb_ 82) 86 = .ok (.goto (17), 3) := by decide +kernel
theorem dm_82_89 : decode (kb_ 82) 89 = .ok (.aload_n 0, 1) := by decide +kernel
theorem dm_82_90 : decode (kb_ 82) 90 = .ok (.getfield 11, 3) := by decide +kernel
theorem dm_82_93 : decode (kb_ 82) 93 = .ok (.iload 6, 2) := by decide +kernel
theorem dm_82_95 : decode (kb_ 82) 95 = .ok (.aaload, 1) := by decide +kernel
theorem dm_82_96 : decode (kb_ 82) 96 = .ok (.iload 7, 2) := by decide +kernel
theorem dm_82_98 : decode (kb_ 82) 98 = .ok (.iload 4, 2) := by decide +kernel
theorem dm_82_100 : decode (kb_ 82) 100 = .ok (.invokevirtual 101, 3) := by decide +kernel
theorem dm_82_103 : decode (kb_ 82) 103 = .ok (.ireturn, 1) := by decide +kernel
theorem dm_82_104 : decode (kb_ 82) 104 = .ok (.iload 4, 2) := by decide +kernel
theorem dm_82_106 : decode (kb_ 82) 106 = .ok (.iload 8, 2) := by decide +kernel
theorem dm_82_108 : decode (kb_ 82) 108 = .ok (.isub, 1) := by decide +kernel
theorem dm_82_109 : decode (kb_ 82) 109 = .ok (.istore 4, 2) := by decide +kernel
theorem dm_82_111 : decode (kb_ 82) 111 = .ok (.iinc 5 (1), 3) := by decide +kernel
theorem dm_82_114 : decode (kb_ 82) 114 = .ok (.goto (-86), 3) := by decide +kernel
theorem dm_82_117 : decode (kb_ 82) 117 = .ok (.iconst (-1), 1) := by decide +kernel
theorem dm_82_118 : decode (kb_ 82) 118 = .ok (.ireturn, 1) := by decide +kernel
theorem dm_83_0 : decode (kb_ 83) 0 = .ok (.aload_n 0, 1) := by decide +kernel
theorem dm_83_1 : decode (kb_ 83) 1 = .ok (.iload_n 1, 1) := by decide +kernel
theorem dm_83_2 : decode (kb_ 83) 2 = .ok (.invokevirtual 88, 3) := by decide +kernel
theorem dm_83_5 : decode (kb_ 83) 5 = .ok (.ifCond .eq (12), 3) := by decide +kernel
theorem dm_83_8 : decode (kb_ 83) 8 = .ok (.aload_n 0, 1) := by decide +kernel
theorem dm_83_9 : decode (kb_ 83) 9 = .ok (.getfield 24, 3) := by decide +kernel
theorem dm_83_12 : decode (kb_ 83) 12 = .ok (.iload_n 1, 1) := by decide +kernel
theorem dm_83_13 : decode (kb_ 83) 13 = .ok (.iaload, 1) := by decide +kernel
theorem dm_83_14 : decode (kb_ 83) 14 = .ok (.goto (4), 3) := by decide +kernel
theorem dm_83_17 : decode (kb_ 83) 17 = .ok (.iconst (0), 1) := by decide +kernel
theorem dm_83_18 : decode (kb_ 83) 18 = .ok (.ireturn, 1) := by decide +kernel
theorem dm_84_0 : decode (kb_ 84) 0 = .ok (.aload_n 1, 1) := by decide +kernel
theorem dm_84_1 : decode (kb_ 84) 1 = .ok (.invokevirtual 25, 3) := by decide +kernel
theorem dm_84_4 : decode (kb_ 84) 4 = .ok (.istore_n 2, 1) := by decide +kernel
theorem dm_84_5 : decode (kb_ 84) 5 = .ok (.iconst (0), 1) := by decide +kernel
theorem dm_84_6 : decode (kb_ 84) 6 = .ok (.istore_n 3, 1) := by decide +kernel
theorem dm_84_7 : decode (kb_ 84) 7 = .ok (.iload_n 3, 1) := by decide +kernel
theorem dm_84_8 : decode (kb_ 84) 8 = .ok (.iload_n 2, 1) := by decide +kernel
theorem dm_84_9 : decode (kb_ 84) 9 = .ok (.if_icmp .ge (18), 3) := by decide +kernel
theorem dm_84_12 : decode (kb_ 84) 12 = .ok (.aload_n 0, 1) := by decide +kernel
theorem dm_84_13 : decode (kb_ 84) 13 = .ok (.aload_n 1, 1) := by decide +kernel
theorem dm_84_14 : decode (kb_ 84) 14 = .ok (.iload_n 3, 1) := by decide +kernel
theorem dm_84_15 : decode (kb_ 84) 15 = .ok (.invokevirtual 28, 3) := by decide +kernel
theorem dm_84_18 : decode (kb_ 84) 18 = .ok (.invokevirtual 32, 3) := by decide +kernel
theorem dm_84_21 : decode (kb_ 84) 21 = .ok (.iinc 3 (1), 3) := by decide +kernel
theorem dm_84_24 : decode (kb_ 84) 24 = .ok (.goto (-17), 3) := by decide +kernel
theorem dm_84_27 : decode (kb_ 84) 27 = .ok (.return_, 1) := by decide +kernel
theorem dm_85_0 : decode (kb_ 85) 0 = .ok (.aload_n 0, 1) := by decide +kernel
theorem dm_85_1 : decode (kb_ 85) 1 = .ok (.iload_n 1, 1) := by decide +kernel
theorem dm_85_2 : decode (kb_ 85) 2 = .ok (.iconst (5), 1) := by decide +kernel
theorem dm_85_3 : decode (kb_ 85) 3 = .ok (.invokestatic 113, 3) := by decide +kernel
theorem dm_85_6 : decode (kb_ 85) 6 = .ok (.aload_n 0, 1) := by decide +kernel
theorem dm_85_7 : decode (kb_ 85) 7 = .ok (.getfield 52, 3) := by decide +kernel
theorem dm_85_10 : decode (kb_ 85) 10 = .ok (.iconst (-1), 1) := by decide +kernel
theorem dm_85_11 : decode (kb_ 85) 11 = .ok (.if_icmp .eq (7), 3) := by decide +kernel
theorem dm_85_14 : decode (kb_ 85) 14 = .ok (.iconst (1), 1) := by decide +kernel
theorem dm_85_15 : decode (kb_ 85) 15 = .ok (.goto (4), 3) := by decide +kernel
theorem dm_85_18 : decode (kb_ 85) 18 = .ok (.iconst (0), 1) := by decide +kernel
theorem dm_85_19 : decode (kb_ 85) 19 = .ok (.invokevirtual 128, 3) := by decide +kernel
theorem dm_85_22 : decode (kb_ 85) 22 = .ok (.ifCond .eq (19), 3) := by decide +kernel
theorem dm_85_25 : decode (kb_ 85) 25 = .ok (.aload_n 0, 1) := by decide +kernel
theorem dm_85_26 : decode (kb_ 85) 26 = .ok (.getfield 59, 3) := by decide +kernel
theorem dm_85_29 : decode (kb_ 85) 29 = .ok (.iconst (5), 1) := by decide +kernel
theorem dm_85_30 : decode (kb_ 85) 30 = .ok (.aload_n 0, 1) := by decide +kernel
theorem dm_85_31 : decode (kb_ 85) 31 = .ok (.getfield 52, 3) := by decide +kernel
theorem dm_85_34 : decode (kb_ 85) 34 = .ok (.imul, 1) := by decide +kernel
theorem dm_85_35 : decode (kb_ 85) 35 = .ok (.iload_n 1, 1) := by decide +kernel
theorem dm_85_36 : decode (kb_ 85) 36 = .ok (.iadd, 1) := by decide +kernel
theorem dm_85_37 : decode (kb_ 85) 37 = .ok (.iaload, 1) := by decide +kernel
theorem dm_85_38 : decode (kb_ 85) 38 = .ok (.goto (4), 3) := by decide +kernel
theorem dm_85_41 : decode (kb_ 85) 41 = .ok (.iconst (0), 1) := by decide +kernel
theorem dm_85_42 : decode (kb_ 85) 42 = .ok (.ireturn, 1) := by decide +kernel
theorem dm_86_0 : decode (kb_ 86) 0 = .ok (.aload_n 0, 1) := by decide +kernel
theorem dm_86_1 : decode (kb_ 86) 1 = .ok (.iload_n 1, 1) := by decide +kernel
theorem dm_86_2 : decode (kb_ 86) 2 = .ok (.iconst (3), 1) := by decide +kernel
theorem dm_86_3 : decode (kb_ 86) 3 = .ok (.invokestatic 113, 3) := by decide +kernel
theorem dm_86_6 : decode (kb_ 86) 6 = .ok (.iconst (1), 1) := by decide +kernel
theorem dm_86_7 : decode (kb_ 86) 7 = .ok (.invokevirtual 128, 3) := by decide +kernel
theorem dm_86_10 : decode (kb_ 86) 10 = .ok (.ifCond .ne (5), 3) := by decide +kernel
theorem dm_86_13 : decode (kb_ 86) 13 = .ok (.iconst (0), 1) := by decide +kernel
theorem dm_86_14 : decode (kb_ 86) 14 = .ok (.ireturn, 1) := by decide +kernel
theorem dm_86_15 : decode (kb_ 86) 15 = .ok (.iload_n 1, 1) := by decide +kernel
theorem dm_86_16 : decode (kb_ 86) 16 = .ok (.ifCond .ne (10), 3) := by decide +kernel
theorem dm_86_19 : decode (kb_ 86) 19 = .ok (.aload_n 0, 1) := by decide +kernel
theorem dm_86_20 : decode (kb_ 86) 20 = .ok (.getfield 117, 3) := by decide +kernel
theorem dm_86_23 : decode (kb_ 86) 23 = .ok (.goto (19), 3) := by decide +kernel
theorem dm_86_26 : decode (kb_ 86) 26 = .ok (.iload_n 1, 1) := by decide +kernel
theorem dm_86_27 : decode (kb_ 86) 27 = .ok (.iconst (1), 1) := by decide +kernel
theorem dm_86_28 : decode (kb_ 86) 28 = .ok (.if_icmp .ne (10), 3) := by decide +kernel
theorem dm_86_31 : decode (kb_ 86) 31 = .ok (.aload_n 0, 1) := by decide +kernel
theorem dm_86_32 : decode (kb_ 86) 32 = .ok (.getfield 139, 3) := by decide +kernel
theorem dm_86_35 : decode (kb_ 86) 35 = .ok (.goto (7), 3) := by decide +kernel
theorem dm_86_38 : decode (kb_ 86) 38 = .ok (.aload_n 0, 1) := by decide +kernel
theorem dm_86_39 : decode (kb_ 86) 39 = .ok (.getfield 110, 3) := by decide +kernel
theorem dm_86_42 : decode (kb_ 86) 42 = .ok (.ireturn, 1) := by decide +kernel
theorem dm_87_0 : decode (kb_ 87) 0 = .ok (.aload_n 0, 1) := by decide +kernel
theorem dm_87_1 : decode (kb_ 87) 1 = .ok (.iload_n 1, 1) := by decide +kernel
theorem dm_87_2 : decode (kb_ 87) 2 = .ok (.aload_n 0, 1) := by decide +kernel
theorem dm_87_3 : decode (kb_ 87) 3 = .ok (.getfield 139, 3) := by decide +kernel
theorem dm_87_6 : decode (kb_ 87) 6 = .ok (.invokestatic 113, 3) := by decide +kernel
theorem dm_87_9 : decode (kb_ 87) 9 = .ok (.aload_n 0, 1) := by decide +kernel
theorem dm_87_10 : decode (kb_ 87) 10 = .ok (.getfield 110, 3) := by decide +kernel
theorem dm_87_13 : decode (kb_ 87) 13 = .ok (.bipush (8), 2) := by decide +kernel
theorem dm_87_15 : decode (kb_ 87) 15 = .ok (.if_icmp .ge (7), 3) := by decide +kernel
theorem dm_87_18 : decode (kb_ 87) 18 = .ok (.iconst (1), 1) := by decide +kernel
theorem dm_87_19 : decode (kb_ 87) 19 = .ok (.goto (4), 3) := by decide +kernel
theorem dm_87_22 : decode (kb_ 87) 22 = .ok (.iconst (0), 1) := by decide +kernel
theorem dm_87_23 : decode (kb_ 87) 23 = .ok (.invokevirtual 128, 3) := by decide +kernel
theorem dm_87_26 : decode (kb_ 87) 26 = .ok (.ifCond .ne (5), 3) := by decide +kernel
theorem dm_87_29 : decode (kb_ 87) 29 = .ok (.iconst (0), 1) := by decide +kernel
theorem dm_87_30 : decode (kb_ 87) 30 = .ok (.ireturn, 1) := by decide +kernel
theorem dm_87_31 : decode (kb_ 87) 31 = .ok (.aload_n 0, 1) := by decide +kernel
theorem dm_87_32 : decode (kb_ 87) 32 = .ok (.getfield 19, 3) := by decide +kernel
theorem dm_87_35 : decode (kb_ 87) 35 = .ok (.aload_n 0, 1) := by decide +kernel
theorem dm_87_36 : decode (kb_ 87) 36 = .ok (.getfield 110, 3) := by decide +kernel
theorem dm_87_39 : decode (kb_ 87) 39 = .ok (.iload_n 1, 1) := by decide +kernel
theorem dm_87_40 : decode (kb_ 87) 40 = .ok (.iastore, 1) := by decide +kernel
theorem dm_87_41 : decode (kb_ 87) 41 = .ok (.aload_n 0, 1) := by decide +kernel
theorem dm_87_42 : decode (kb_ 87) 42 = .ok (.dup, 1) := by decide +kernel
theorem dm_87_43 : decode (kb_ 87) 43 = .ok (.getfield 110, 3) := by decide +kernel
theorem dm_87_46 : decode (kb_ 87) 46 = .ok (.iconst (1), 1) := by decide +kernel
theorem dm_87_47 : decode (kb_ 87) 47 = .ok (.iadd, 1) := by decide +kernel
theorem dm_87_48 : decode (kb_ 87) 48 = .ok (.putfield 110, 3) := by decide +kernel
theorem dm_87_51 : decode (kb_ 87) 51 = .ok (.aload_n 0, 1) := by decide +kernel
theorem dm_87_52 : decode (kb_ 87) 52 = .ok (.getfield 110, 3) := by decide +kernel
theorem dm_87_55 : decode (kb_ 87) 55 = .ok (.iconst (1), 1) := by decide +kernel
theorem dm_87_56 : decode (kb_ 87) 56 = .ok (.isub, 1) := by decide +kernel
theorem dm_87_57 : decode (kb_ 87) 57 = .ok (.ireturn, 1) := by decide +kernel
theorem dm_88_0 : decode (kb_ 88) 0 = .ok (.iconst (0), 1) := by decide +kernel
theorem dm_88_1 : decode (kb_ 88) 1 = .ok (.istore_n 1, 1) := by decide +kernel
theorem dm_88_2 : decode (kb_ 88) 2 = .ok (.iconst (0), 1) := by decide +kernel
theorem dm_88_3 : decode (kb_ 88) 3 = .ok (.istore_n 2, 1) := by decide +kernel
theorem dm_88_4 : decode (kb_ 88) 4 = .ok (.iconst (0), 1) := by decide +kernel
theorem dm_88_5 : decode (kb_ 88) 5 = .ok (.istore_n 3, 1) := by decide +kernel
theorem dm_88_6 : decode (kb_ 88) 6 = .ok (.iconst (0), 1) := by decide +kernel
theorem dm_88_7 : decode (kb_ 88) 7 = .ok (.istore 4, 2) := by decide +kernel
theorem dm_88_9 : decode (kb_ 88) 9 = .ok (.iload 4, 2) := by decide +kernel
theorem dm_88_11 : decode (kb_ 88) 11 = .ok (.aload_n 0, 1) := by decide +kernel
theorem dm_88_12 : decode (kb_ 88) 12 = .ok (.getfield 117, 3) := by decide +kernel
theorem dm_88_15 : decode (kb_ 88) 15 = .ok (.if_icmp .ge (165), 3) := by decide +kernel
theorem dm_88_18 : decode (kb_ 88) 18 = .ok (.aload_n 0, 1) := by decide +kernel
theorem dm_88_19 : decode (kb_ 88) 19 = .ok (.getfield 7, 3) := by decide +kernel
theorem dm_88_22 : decode (kb_ 88) 22 = .ok (.iload 4, 2) := by decide +kernel
theorem dm_88_24 : decode (kb_ 88) 24 = .ok (.iaload, 1) := by decide +kernel
theorem dm_88_25 : decode (kb_ 88) 25 = .ok (.istore 5, 2) := by decide +kernel
theorem dm_88_27 : decode (kb_ 88) 27 = .ok (.iload_n 1, 1) := by decide +kernel
theorem dm_88_28 : decode (kb_ 88) 28 = .ok (.ifCond .le (31), 3) := by decide +kernel
theorem dm_88_31 : decode (kb_ 88) 31 = .ok (.iload 5, 2) := by decide +kernel
theorem dm_88_33 : decode (kb_ 88) 33 = .ok (.bipush (48), 2) := by decide +kernel
theorem dm_88_35 : decode (kb_ 88) 35 = .ok (.if_icmp .lt (16), 3) := by decide +kernel
theorem dm_88_38 : decode (kb_ 88) 38 = .ok (.iload 5, 2) := by decide +kernel
theorem dm_88_40 : decode (kb_ 88) 40 = .ok (.bipush (48), 2) := by decide +kernel
theorem dm_88_42 : decode (kb_ 88) 42 = .ok (.iload_n 1, 1) := by decide +kernel
theorem dm_88_43 : decode (kb_ 88) 43 = .ok (.iadd, 1) := by decide +kernel
theorem dm_88_44 : decode (kb_ 88) 44 = .ok (.if_icmp .gt (7), 3) := by decide +kernel
theorem dm_88_47 : decode (kb_ 88) 47 = .ok (.iconst (1), 1) := by decide +kernel
theorem dm_88_48 : decode (kb_ 88) 48 = .ok (.goto (4), 3) := by decide +kernel
theorem dm_88_51 : decode (kb_ 88) 51 = .ok (.iconst (0), 1) := by decide +kernel
theorem dm_88_52 : decode (kb_ 88) 52 = .ok (.istore 6, 2) := by decide +kernel
theorem dm_88_54 : decode (kb_ 88) 54 = .ok (.iconst (0), 1) := by decide +kernel
theorem dm_88_55 : decode (kb_ 88) 55 = .ok (.istore_n 1, 1) := by decide +kernel
theorem dm_88_56 : decode (kb_ 88) 56 = .ok (.goto (110), 3) := by decide +kernel
theorem dm_88_59 : decode (kb_ 88) 59 = .ok (.iload 5, 2) := by decide +kernel
theorem dm_88_61 : decode (kb_ 88) 61 = .ok (.bipush (35), 2) := by decide +kernel
theorem dm_88_63 : decode (kb_ 88) 63 = .ok (.if_icmp .eq (10), 3) := by decide +kernel
theorem dm_88_66 : decode (kb_ 88) 66 = .ok (.iload 5, 2) := by decide +kernel
theorem dm_88_68 : decode (kb_ 88) 68 = .ok (.bipush (64), 2) := by decide +kernel
theorem dm_88_70 : decode (kb_ 88) 70 = .ok (.if_icmp .ne (36), 3) := by decide +kernel
theorem dm_88_73 : decode (kb_ 88) 73 = .ok (.iload_n 2, 1) := by decide +kernel
theorem dm_88_74 : decode (kb_ 88) 74 = .ok (.bipush (6), 2) := by decide +kernel
theorem dm_88_76 : decode (kb_ 88) 76 = .ok (.if_icmp .ge (7), 3) := by decide +kernel
theorem dm_88_79 : decode (kb_ 88) 79 = .ok (.iconst (1), 1) := by decide +kernel
theorem dm_88_80 : decode (kb_ 88) 80 = .ok (.goto (4), 3) := by decide +kernel
theorem dm_88_83 : decode (kb_ 88) 83 = .ok (.iconst (0), 1) := by decide +kernel
theorem dm_88_84 : decode (kb_ 88) 84 = .ok (.istore 6, 2) := by decide +kernel
theorem dm_88_86 : decode (kb_ 88) 86 = .ok (.iinc 2 (1), 3) := by decide +kernel
theorem dm_88_89 : decode (kb_ 88) 89 = .ok (.iload 5, 2) := by decide +kernel
theorem dm_88_91 : decode (kb_ 88) 91 = .ok (.bipush (35), 2) := by decide +kernel
theorem dm_88_93 : decode (kb_ 88) 93 = .ok (.if_icmp .ne (7), 3) := by decide +kernel
theorem dm_88_96 : decode (kb_ 88) 96 = .ok (.iconst (3), 1) := by decide +kernel
theorem dm_88_97 : decode (kb_ 88) 97 = .ok (.goto (5), 3) := by decide +kernel
theorem dm_88_100 : decode (kb_ 88) 100 = .ok (.bipush (7), 2) := by decide +kernel
theorem dm_88_102 : decode (kb_ 88) 102 = .ok (.istore_n 1, 1) := by decide +kernel
theorem dm_88_103 : decode (kb_ 88) 103 = .ok (.goto (63), 3) := by decide +kernel
theorem dm_88_106 : decode (kb_ 88) 106 = .ok (.iload 5, 2) := by decide +kernel
theorem dm_88_108 : decode (kb_ 88) 108 = .ok (.bipush (91), 2) := by decide +kernel
theorem dm_88_110 : decode (kb_ 88) 110 = .ok (.if_icmp .ne (19), 3) := by decide +kernel
theorem dm_88_113 : decode (kb_ 88) 113 = .ok (.iload_n 3, 1) := by decide +kernel
theorem dm_88_114 : decode (kb_ 88) 114 = .ok (.ifCond .ne (7), 3) := by decide +kernel
theorem dm_88_117 : decode (kb_ 88) 117 = .ok (.iconst (1), 1) := by decide +kernel
theorem dm_88_118 : decode (kb_ 88) 118 = .ok (.goto (4), 3) := by decide +kernel
theorem dm_88_121 : decode (kb_ 88) 121 = .ok (.iconst (0), 1) := by decide +kernel
theorem dm_88_122 : decode (kb_ 88) 122 = .ok (.istore 6, 2) := by decide +kernel
theorem dm_88_124 : decode (kb_ 88) 124 = .ok (.iconst (1), 1) := by decide +kernel
theorem dm_88_125 : decode (kb_ 88) 125 = .ok (.istore_n 3, 1) := by decide +kernel
theorem dm_88_126 : decode (kb_ 88) 126 = .ok (.goto (40), 3) := by decide +kernel
theorem dm_88_129 : decode (kb_ 88) 129 = .ok (.iload 5, 2) := by decide +kernel
theorem dm_88_131 : decode (kb_ 88) 131 = .ok (.bipush (93), 2) := by decide +kernel
theorem dm_88_133 : decode (kb_ 88) 133 = .ok (.if_icmp .ne (11), 3) := by decide +kernel
theorem dm_88_136 : decode (kb_ 88) 136 = .ok (.iload_n 3, 1) := by decide +kernel
theorem dm_88_137 : decode (kb_ 88) 137 = .ok (.istore 6, 2) := by decide +kernel
theorem dm_88_139 : decode (kb_ 88) 139 = .ok (.iconst (0), 1) := by decide +kernel
theorem dm_88_140 : decode (kb_ 88) 140 = .ok (.istore_n 3, 1) := by decide +kernel
theorem dm_88_141 : decode (kb_ 88) 141 = .ok (.goto (25), 3) := by decide +kernel
theorem dm_88_144 : decode (kb_ 88) 144 = .ok (.iload 5, 2) := by decide +kernel
theorem dm_88_146 : decode (kb_ 88) 146 = .ok (.invokestatic 136, 3) := by decide +kernel
theorem dm_88_149 : decode (kb_ 88) 149 = .ok (.ifCond .ne (10), 3) := by decide +kernel
theorem dm_88_152 : decode (kb_ 88) 152 = .ok (.iload 5, 2) := by decide +kernel
theorem dm_88_154 : decode (kb_ 88) 154 = .ok (.bipush (32), 2) := by decide +kernel
theorem dm_88_156 : decode (kb_ 88) 156 = .ok (.if_icmp .ne (7), 3) := by decide +kernel
theorem dm_88_159 : decode (kb_ 88) 159 = .ok (.iconst (1), 1) := by decide +kernel
theorem dm_88_160 : decode (kb_ 88) 160 = .ok (.goto (4), 3) := by decide +kernel
theorem dm_88_163 : decode (kb_ 88) 163 = .ok (.iconst (0), 1) := by decide +kernel
theorem dm_88_164 : decode (kb_ 88) 164 = .ok (.istore 6, 2) := by decide +kernel
theorem dm_88_166 : decode (kb_ 88) 166 = .ok (.iload 6, 2) := by decide +kernel
theorem dm_88_168 : decode (kb_ 88) 168 = .ok (.ifCond .ne (6), 3) := by decide +kernel
theorem dm_88_171 : decode (kb_ 88) 171 = .ok (.iload 4, 2) := by decide +kernel
theorem dm_88_173 : decode (kb_ 88) 173 = .ok (.ireturn, 1) := by decide +kernel
theorem dm_88_174 : decode (kb_ 88) 174 = .ok (.iinc 4 (1), 3) := by decide +kernel
theorem dm_88_177 : decode (kb_ 88) 177 = .ok (.goto (-168), 3) := by decide +kernel
theorem dm_88_180 : decode (kb_ 88) 180 = .ok (.iload_n 1, 1) := by decide +kernel
theorem dm_88_181 : decode (kb_ 88) 181 = .ok (.ifCond .gt (7), 3) := by decide +kernel
theorem dm_88_184 : decode (kb_ 88) 184 = .ok (.iload_n 3, 1) := by decide +kernel
theorem dm_88_185 : decode (kb_ 88) 185 = .ok (.ifCond .eq (10), 3) := by decide +kernel
theorem dm_88_188 : decode (kb_ 88) 188 = .ok (.aload_n 0, 1) := by decide +kernel
theorem dm_88_189 : decode (kb_ 88) 189 = .ok (.getfield 117, 3) := by decide +kernel
theorem dm_88_192 : decode (kb_ 88) 192 = .ok (.goto (4), 3) := by decide +kernel
theorem dm_88_195 : decode (kb_ 88) 195 = .ok (.iconst (-1), 1) := by decide +kernel
theorem dm_88_196 : decode (kb_ 88) 196 = .ok (.ireturn, 1) := by decide +kernel
theorem dm_89_0 : decode (kb_ 89) 0 = .ok (.iconst (4), 1) := by decide +kernel
theorem dm_89_1 : decode (kb_ 89) 1 = .ok (.iload_n 1, 1) := by decide +kernel
theorem dm_89_2 : decode (kb_ 89) 2 = .ok (.imul, 1) := by decide +kernel
theorem dm_89_3 : decode (kb_ 89) 3 = .ok (.iload_n 3, 1) := by decide +kernel
theorem dm_89_4 : decode (kb_ 89) 4 = .ok (.iadd, 1) := by decide +kernel
theorem dm_89_5 : decode (kb_ 89) 5 = .ok (.istore 4, 2) := by decide +kernel
theorem dm_89_7 : decode (kb_ 89) 7 = .ok (.iconst (4), 1) := by decide +kernel
theorem dm_89_8 : decode (kb_ 89) 8 = .ok (.iload_n 2, 1) := by decide +kernel
theorem dm_89_9 : decode (kb_ 89) 9 = .ok (.imul, 1) := by decide +kernel
theorem dm_89_10 : decode (kb_ 89) 10 = .ok (.iload_n 3, 1) := by decide +kernel
theorem dm_89_11 : decode (kb_ 89) 11 = .ok (.iadd, 1) := by decide +kernel
theorem dm_89_12 : decode (kb_ 89) 12 = .ok (.istore 5, 2) := by decide +kernel
theorem dm_89_14 : decode (kb_ 89) 14 = .ok (.iconst (0), 1) := by decide +kernel
theorem dm_89_15 : decode (kb_ 89) 15 = .ok (.istore 6, 2) := by decide +kernel
theorem dm_89_17 : decode (kb_ 89) 17 = .ok (.iload 6, 2) := by decide +kernel
theorem dm_89_19 : decode (kb_ 89) 19 = .ok (.aload_n 0, 1) := by decide +kernel
theorem dm_89_20 : decode (kb_ 89) 20 = .ok (.getfield 22, 3) := by decide +kernel
theorem dm_89_23 : decode (kb_ 89) 23 = .ok (.iload 4, 2) := by decide +kernel
theorem dm_89_25 : decode (kb_ 89) 25 = .ok (.iaload, 1) := by decide +kernel
theorem dm_89_26 : decode (kb_ 89) 26 = .ok (.if_icmp .ge (79), 3) := by decide +kernel
theorem dm_89_29 : decode (kb_ 89) 29 = .ok (.iload 6, 2) := by decide +kernel
theorem dm_89_31 : decode (kb_ 89) 31 = .ok (.aload_n 0, 1) := by decide +kernel
theorem dm_89_32 : decode (kb_ 89) 32 = .ok (.getfield 22, 3) := by decide +kernel
theorem dm_89_35 : decode (kb_ 89) 35 = .ok (.iload 5, 2) := by decide +kernel
theorem dm_89_37 : decode (kb_ 89) 37 = .ok (.iaload, 1) := by decide +kernel
theorem dm_89_38 : decode (kb_ 89) 38 = .ok (.if_icmp .ge (67), 3) := by decide +kernel
theorem dm_89_41 : decode (kb_ 89) 41 = .ok (.aload_n 0, 1) := by decide +kernel
theorem dm_89_42 : decode (kb_ 89) 42 = .ok (.aload_n 0, 1) := by decide +kernel
theorem dm_89_43 : decode (kb_ 89) 43 = .ok (.getfield 25, 3) := by decide +kernel
theorem dm_89_46 : decode (kb_ 89) 46 = .ok (.bipush (32), 2) := by decide +kernel
theorem dm_89_48 : decode (kb_ 89) 48 = .ok (.iload 4, 2) := by decide +kernel
theorem dm_89_50 : decode (kb_ 89) 50 = .ok (.imul, 1) := by decide +kernel
theorem dm_89_51 : decode (kb_ 89) 51 = .ok (.iload 6, 2) := by decide +kernel
theorem dm_89_53 : decode (kb_ 89) 53 = .ok (.iadd, 1) := by decide +kernel
theorem dm_89_54 : decode (kb_ 89) 54 = .ok (.iaload, 1) := by decide +kernel
theorem dm_89_55 : decode (kb_ 89) 55 = .ok (.invokevirtual 210, 3) := by decide +kernel
theorem dm_89_58 : decode (kb_ 89) 58 = .ok (.istore 7, 2) := by decide +kernel
theorem dm_89_60 : decode (kb_ 89) 60 = .ok (.aload_n 0, 1) := by decide +kernel
theorem dm_89_61 : decode (kb_ 89) 61 = .ok (.aload_n 0, 1) := by decide +kernel
theorem dm_89_62 : decode (kb_ 89) 62 = .ok (.getfield 25, 3) := by decide +kernel
theorem dm_89_65 : decode (kb_ 89) 65 = .ok (.bipush (32), 2) := by decide +kernel
theorem dm_89_67 : decode (kb_ 89) 67 = .ok (.iload 5, 2) := by decide +kernel
theorem dm_89_69 : decode (kb_ 89) 69 = .ok (.imul, 1) := by decide +kernel
theorem dm_89_70 : decode (kb_ 89) 70 = .ok (.iload 6, 2) := by decide +kernel
theorem dm_89_72 : decode (kb_ 89) 72 = .ok (.iadd, 1) := by decide +kernel
theorem dm_89_73 : decode (kb_ 89) 73 = .ok (.iaload, 1) := by decide +kernel
theorem dm_89_74 : decode (kb_ 89) 74 = .ok (.invokevirtual 210, 3) := by decide +kernel
theorem dm_89_77 : decode (kb_ 89) 77 = .ok (.istore 8, 2) := by decide +kernel
theorem dm_89_79 : decode (kb_ 89) 79 = .ok (.iload 7, 2) := by decide +kernel
theorem dm_89_81 : decode (kb_ 89) 81 = .ok (.iload 8, 2) := by decide +kernel
theorem dm_89_83 : decode (kb_ 89) 83 = .ok (.if_icmp .eq (16), 3) := by decide +kernel
theorem dm_89_86 : decode (kb_ 89) 86 = .ok (.iload 7, 2) := by decide +kernel
theorem dm_89_88 : decode (kb_ 89) 88 = .ok (.iload 8, 2) := by decide +kernel
theorem dm_89_90 : decode (kb_ 89) 90 = .ok (.if_icmp .ge (7), 3) := by decide +kernel
theorem dm_89_93 : decode (kb_ 89) 93 = .ok (.iconst (1), 1) := by decide +kernel
theorem dm_89_94 : decode (kb_ 89) 94 = .ok (.goto (4), 3) := by decide +kernel
theorem dm_89_97 : decode (kb_ 89) 97 = .ok (.iconst (0), 1) := by decide +kernel
theorem dm_89_98 : decode (kb_ 89) 98 = .ok (.ireturn, 1) := by decide +kernel
theorem dm_89_99 : decode (kb_ 89) 99 = .ok (.iinc 6 (1), 3) := by decide +kernel
theorem dm_89_102 : decode (kb_ 89) 102 = .ok (.goto (-85), 3) := by decide +kernel
theorem dm_89_105 : decode (kb_ 89) 105 = .ok (.aload_n 0, 1) := by decide +kernel
theorem dm_89_106 : decode (kb_ 89) 106 = .ok (.getfield 22, 3) := by decide +kernel
theorem dm_89_109 : decode (kb_ 89) 109 = .ok (.iload 4, 2) := by decide +kernel
theorem dm_89_111 : decode (kb_ 89) 111 = .ok (.iaload, 1) := by decide +kernel
theorem dm_89_112 : decode (kb_ 89) 112 = .ok (.aload_n 0, 1) := by decide +kernel
theorem dm_89_113 : decode (kb_ 89) 113 = .ok (.getfield 22, 3) := by decide +kernel
theorem dm_89_116 : decode (kb_ 89) 116 = .ok (.iload 5, 2) := by decide +kernel
theorem dm_89_118 : decode (kb_ 89) 118 = .ok (.iaload, 1) := by decide +kernel
theorem dm_89_119 : decode (kb_ 89) 119 = .ok (.if_icmp .lt (25), 3) := by decide +kernel
theorem dm_89_122 : decode (kb_ 89) 122 = .ok (.aload_n 0, 1) := by decide +kernel
theorem dm_89_123 : decode (kb_ 89) 123 = .ok (.getfield 22, 3) := by decide +kernel
theorem dm_89_126 : decode (kb_ 89) 126 = .ok (.iload 4, 2) := by decide +kernel
theorem dm_89_128 : decode (kb_ 89) 128 = .ok (.iaload, 1) := by decide +kernel
theorem dm_89_129 : decode (kb_ 89) 129 = .ok (.aload_n 0, 1) := by decide +kernel
theorem dm_89_130 : decode (kb_ 89) 130 = .ok (.getfield 22, 3) := by decide +kernel
theorem dm_89_133 : decode (kb_ 89) 133 = .ok (.iload 5, 2) := by decide +kernel
theorem dm_89_135 : decode (kb_ 89) 135 = .ok (.iaload, 1) := by decide +kernel
theorem dm_89_136 : decode (kb_ 89) 136 = .ok (.if_icmp .ne (12), 3) := by decide +kernel
theorem dm_89_139 : decode (kb_ 89) 139 = .ok (.iload_n 1, 1) := by decide +kernel
theorem dm_89_140 : decode (kb_ 89) 140 = .ok (.iload_n 2, 1) := by decide +kernel
theorem dm_89_141 : decode (kb_ 89) 141 = .ok (.if_icmp .ge (7), 3) := by decide +kernel
theorem dm_89_144 : decode (kb_ 89) 144 = .ok (.iconst (1), 1) := by decide +kernel
theorem dm_89_145 : decode (kb_ 89) 145 = .ok (.goto (4), 3) := by decide +kernel
theorem dm_89_148 : decode (kb_ 89) 148 = .ok (.iconst (0), 1) := by decide +kernel
theorem dm_89_149 : decode (kb_ 89) 149 = .ok (.ireturn, 1) := by decide +kernel
theorem dm_90_0 : decode (kb_ 90) 0 = .ok (.iload_n 1, 1) := by decide +kernel
theorem dm_90_1 : decode (kb_ 90) 1 = .ok (.aload_n 0, 1) := by decide +kernel
theorem dm_90_2 : decode (kb_ 90) 2 = .ok (.getfield 110, 3) := by decide +kernel
theorem dm_90_5 : decode (kb_ 90) 5 = .ok (.invokestatic 113, 3) := by decide +kernel
theorem dm_90_8 : decode (kb_ 90) 8 = .ok (.ireturn, 1) := by decide +kernel
theorem dm_91_0 : decode (kb_ 91) 0 = .ok (.bipush (8), 2) := by decide +kernel
theorem dm_91_2 : decode (kb_ 91) 2 = .ok (.iload_n 1, 1) := by decide +kernel
theorem dm_91_3 : decode (kb_ 91) 3 = .ok (.imul, 1) := by decide +kernel
theorem dm_91_4 : decode (kb_ 91) 4 = .ok (.iload_n 2, 1) := by decide +kernel
theorem dm_91_5 : decode (kb_ 91) 5 = .ok (.iadd, 1) := by decide +kernel
theorem dm_91_6 : decode (kb_ 91) 6 = .ok (.istore_n 3, 1) := by decide +kernel
theorem dm_91_7 : decode (kb_ 91) 7 = .ok (.aload_n 0, 1) := by decide +kernel
theorem dm_91_8 : decode (kb_ 91) 8 = .ok (.iconst (0), 1) := by decide +kernel
theorem dm_91_9 : decode (kb_ 91) 9 = .ok (.putfield 172, 3) := by decide +kernel
theorem dm_91_12 : decode (kb_ 91) 12 = .ok (.iconst (0), 1) := by decide +kernel
theorem dm_91_13 : decode (kb_ 91) 13 = .ok (.istore 4, 2) := by decide +kernel
theorem dm_91_15 : decode (kb_ 91) 15 = .ok (.iconst (1), 1) := by decide +kernel
theorem dm_91_16 : decode (kb_ 91) 16 = .ok (.istore 5, 2) := by decide +kernel
theorem dm_91_18 : decode (kb_ 91) 18 = .ok (.iconst (0), 1) := by decide +kernel
theorem dm_91_19 : decode (kb_ 91) 19 = .ok (.istore 6, 2) := by decide +kernel
theorem dm_91_21 : decode (kb_ 91) 21 = .ok (.iload 6, 2) := by decide +kernel
theorem dm_91_23 : decode (kb_ 91) 23 = .ok (.aload_n 0, 1) := by decide +kernel
theorem dm_91_24 : decode (kb_ 91) 24 = .ok (.getfield 152, 3) := by decide +kernel
theorem dm_91_27 : decode (kb_ 91) 27 = .ok (.if_icmp .ge (155), 3) := by decide +kernel
theorem dm_91_30 : decode (kb_ 91) 30 = .ok (.aload_n 0, 1) := by decide +kernel
theorem dm_91_31 : decode (kb_ 91) 31 = .ok (.getfield 37, 3) := by decide +kernel
theorem dm_91_34 : decode (kb_ 91) 34 = .ok (.iload 6, 2) := by decide +kernel
theorem dm_91_36 : decode (kb_ 91) 36 = .ok (.iaload, 1) := by decide +kernel
theorem dm_91_37 : decode (kb_ 91) 37 = .ok (.bipush (32), 2) := by decide +kernel
theorem dm_91_39 : decode (kb_ 91) 39 = .ok (.if_icmp .eq (137), 3) := by decide +kernel
theorem dm_91_42 : decode (kb_ 91) 42 = .ok (.iload 6, 2) := by decide +kernel
theorem dm_91_44 : decode (kb_ 91) 44 = .ok (.ifCond .eq (17), 3) := by decide +kernel
theorem dm_91_47 : decode (kb_ 91) 47 = .ok (.aload_n 0, 1) := by decide +kernel
theorem dm_91_48 : decode (kb_ 91) 48 = .ok (.getfield 37, 3) := by decide +kernel
theorem dm_91_51 : decode (kb_ 91) 51 = .ok (.iload 6, 2) := by decide +kernel
theorem dm_91_53 : decode (kb_ 91) 53 = .ok (.iconst (1), 1) := by decide +kernel
theorem dm_91_54 : decode (kb_ 91) 54 = .ok (.isub, 1) := by decide +kernel
theorem dm_91_55 : decode (kb_ 91) 55 = .ok (.iaload, 1) := by decide +kernel
theorem dm_91_56 : decode (kb_ 91) 56 = .ok (.bipush (32), 2) := by decide +kernel
theorem dm_91_58 : decode (kb_ 91) 58 = .ok (.if_icmp .ne (49), 3) := by decide +kernel
theorem dm_91_61 : decode (kb_ 91) 61 = .ok (.aload_n 0, 1) := by decide +kernel
theorem dm_91_62 : decode (kb_ 91) 62 = .ok (.getfield 172, 3) := by decide +kernel
theorem dm_91_65 : decode (kb_ 91) 65 = .ok (.ifCond .le (21), 3) := by decide +kernel
theorem dm_91_68 : decode (kb_ 91) 68 = .ok (.aload_n 0, 1) := by decide +kernel
theorem dm_91_69 : decode (kb_ 91) 69 = .ok (.getfield 77, 3) := by decide +kernel
theorem dm_91_72 : decode (kb_ 91) 72 = .ok (.sipush (240), 3) := by decide +kernel
theorem dm_91_75 : decode (kb_ 91) 75 = .ok (.iload_n 3, 1) := by decide +kernel
theorem dm_91_76 : decode (kb_ 91) 76 = .ok (.imul, 1) := by decide +kernel
theorem dm_91_77 : decode (kb_ 91) 77 = .ok (.iload 4, 2) := by decide +kernel
theorem dm_91_79 : decode (kb_ 91) 79 = .ok (.iadd, 1) := by decide +kernel
theorem dm_91_80 : decode (kb_ 91) 80 = .ok (.bipush (32), 2) := by decide +kernel
theorem dm_91_82 : decode (kb_ 91) 82 = .ok (.iastore, 1) := by decide +kernel
theorem dm_91_83 : decode (kb_ 91) 83 = .ok (.iinc 4 (1), 3) := by decide +kernel
theorem dm_91_86 : decode (kb_ 91) 86 = .ok (.aload_n 0, 1) := by decide +kernel
theorem dm_91_87 : decode (kb_ 91) 87 = .ok (.getfield 40, 3) := by decide +kernel
theorem dm_91_90 : decode (kb_ 91) 90 = .ok (.aload_n 0, 1) := by decide +kernel
theorem dm_91_91 : decode (kb_ 91) 91 = .ok (.getfield 172, 3) := by decide +kernel
theorem dm_91_94 : decode (kb_ 91) 94 = .ok (.iload 4, 2) := by decide +kernel
theorem dm_91_96 : decode (kb_ 91) 96 = .ok (.iastore, 1) := by decide +kernel
theorem dm_91_97 : decode (kb_ 91) 97 = .ok (.aload_n 0, 1) := by decide +kernel
theorem dm_91_98 : decode (kb_ 91) 98 = .ok (.dup, 1) := by decide +kernel
theorem dm_91_99 : decode (kb_ 91) 99 = .ok (.getfield 172, 3) := by decide +kernel
theorem dm_91_102 : decode (kb_ 91) 102 = .ok (.iconst (1), 1) := by decide +kernel
theorem dm_91_103 : decode (kb_ 91) 103 = .ok (.iadd, 1) := by decide +kernel
theorem dm_91_104 : decode (kb_ 91) 104 = .ok (.putfield 172, 3) := by decide +kernel
theorem dm_91_107 : decode (kb_ 91) 107 = .ok (.aload_n 0, 1) := by decide +kernel
theorem dm_91_108 : decode (kb_ 91) 108 = .ok (.getfield 77, 3) := by decide +kernel
theorem dm_91_111 : decode (kb_ 91) 111 = .ok (.sipush (240), 3) := by decide +kernel
theorem dm_91_114 : decode (kb_ 91) 114 = .ok (.iload_n 3, 1) := by decide +kernel
theorem dm_91_115 : decode (kb_ 91) 115 = .ok (.imul, 1) := by decide +kernel
theorem dm_91_116 : decode (kb_ 91) 116 = .ok (.iload 4, 2) := by decide +kernel
theorem dm_91_118 : decode (kb_ 91) 118 = .ok (.iadd, 1) := by decide +kernel
theorem dm_91_119 : decode (kb_ 91) 119 = .ok (.aload_n 0, 1) := by decide +kernel
theorem dm_91_120 : decode (kb_ 91) 120 = .ok (.getfield 37, 3) := by decide +kernel
theorem dm_91_123 : decode (kb_ 91) 123 = .ok (.iload 6, 2) := by decide +kernel
theorem dm_91_125 : decode (kb_ 91) 125 = .ok (.iaload, 1) := by decide +kernel
theorem dm_91_126 : decode (kb_ 91) 126 = .ok (.iastore, 1) := by decide +kernel
theorem dm_91_127 : decode (kb_ 91) 127 = .ok (.iinc 4 (1), 3) := by decide +kernel
theorem dm_91_130 : decode (kb_ 91) 130 = .ok (.aload_n 0, 1) := by decide +kernel
theorem dm_91_131 : decode (kb_ 91) 131 = .ok (.getfield 43, 3) := by decide +kernel
theorem dm_91_134 : decode (kb_ 91) 134 = .ok (.aload_n 0, 1) := by decide +kernel
theorem dm_91_135 : decode (kb_ 91) 135 = .ok (.getfield 172, 3) := by decide +kernel
theorem dm_91_138 : decode (kb_ 91) 138 = .ok (.iconst (1), 1) := by decide +kernel
theorem dm_91_139 : decode (kb_ 91) 139 = .ok (.isub, 1) := by decide +kernel
theorem dm_91_140 : decode (kb_ 91) 140 = .ok (.iload 4, 2) := by decide +kernel
theorem dm_91_142 : decode (kb_ 91) 142 = .ok (.iastore, 1) := by decide +kernel
theorem dm_91_143 : decode (kb_ 91) 143 = .ok (.iload 5, 2) := by decide +kernel
theorem dm_91_145 : decode (kb_ 91) 145 = .ok (.ifCond .eq (28), 3) := by decide +kernel
theorem dm_91_148 : decode (kb_ 91) 148 = .ok (.iload 4, 2) := by decide +kernel
theorem dm_91_150 : decode (kb_ 91) 150 = .ok (.aload_n 0, 1) := by decide +kernel
theorem dm_91_151 : decode (kb_ 91) 151 = .ok (.getfield 40, 3) := by decide +kernel
theorem dm_91_154 : decode (kb_ 91) 154 = .ok (.aload_n 0, 1) := by decide +kernel
theorem dm_91_155 : decode (kb_ 91) 155 = .ok (.getfield 172, 3) := by decide +kernel
theorem dm_91_158 : decode (kb_ 91) 158 = .ok (.iconst (1), 1) := by decide +kernel
theorem dm_91_159 : decode (kb_ 91) 159 = .ok (.isub, 1) := by decide +kernel
theorem dm_91_160 : decode (kb_ 91) 160 = .ok (.iaload, 1) := by decide +kernel
theorem dm_91_161 : decode (kb_ 91) 161 = .ok (.isub, 1) := by decide +kernel
theorem dm_91_162 : decode (kb_ 91) 162 = .ok (.aload_n 0, 1) := by decide +kernel
theorem dm_91_163 : decode (kb_ 91) 163 = .ok (.getfield 101, 3) := by decide +kernel
theorem dm_91_166 : decode (kb_ 91) 166 = .ok (.if_icmp .gt (7), 3) := by decide +kernel
theorem dm_91_169 : decode (kb_ 91) 169 = .ok (.iconst (1), 1) := by decide +kernel
theorem dm_91_170 : decode (kb_ 91) 170 = .ok (.goto (4), 3) := by decide +kernel
theorem dm_91_173 : decode (kb_ 91) 173 = .ok (.iconst (0), 1) := by decide +kernel
theorem dm_91_174 : decode (kb_ 91) 174 = .ok (.istore 5, 2) := by decide +kernel
theorem dm_91_176 : decode (kb_ 91) 176 = .ok (.iinc 6 (1), 3) := by decide +kernel
theorem dm_91_179 : decode (kb_ 91) 179 = .ok (.goto (-158), 3) := by decide +kernel
theorem dm_91_182 : decode (kb_ 91) 182 = .ok (.aload_n 0, 1) := by decide +kernel
theorem dm_91_183 : decode (kb_ 91) 183 = .ok (.getfield 68, 3) := by decide +kernel
theorem dm_91_186 : decode (kb_ 91) 186 = .ok (.iload_n 3, 1) := by decide +kernel
theorem dm_91_187 : decode (kb_ 91) 187 = .ok (.iconst (0), 1) := by decide +kernel
theorem dm_91_188 : decode (kb_ 91) 188 = .ok (.iastore, 1) := by decide +kernel
theorem dm_91_189 : decode (kb_ 91) 189 = .ok (.aload_n 0, 1) := by decide +kernel
theorem dm_91_190 : decode (kb_ 91) 190 = .ok (.getfield 172, 3) := by decide +kernel
theorem dm_91_193 : decode (kb_ 91) 193 = .ok (.iconst (1), 1) := by decide +kernel
theorem dm_91_194 : decode (kb_ 91) 194 = .ok (.isub, 1) := by decide +kernel
theorem dm_91_195 : decode (kb_ 91) 195 = .ok (.istore 6, 2) := by decide +kernel
theorem dm_91_197 : decode (kb_ 91) 197 = .ok (.iload 6, 2) := by decide +kernel
theorem dm_91_199 : decode (kb_ 91) 199 = .ok (.ifCond .lt (20), 3) := by decide +kernel
theorem dm_91_202 : decode (kb_ 91) 202 = .ok (.iload 5, 2) := by decide +kernel
theorem dm_91_204 : decode (kb_ 91) 204 = .ok (.ifCond .eq (15), 3) := by decide +kernel
theorem dm_91_207 : decode (kb_ 91) 207 = .ok (.aload_n 0, 1) := by decide +kernel
theorem dm_91_208 : decode (kb_ 91) 208 = .ok (.iload 6, 2) := by decide +kernel
theorem dm_91_210 : decode (kb_ 91) 210 = .ok (.invokevirtual 175, 3) := by decide +kernel
theorem dm_91_213 : decode (kb_ 91) 213 = .ok (.iinc 6 (-1), 3) := by decide +kernel
theorem dm_91_216 : decode (kb_ 91) 216 = .ok (.goto (-19), 3) := by decide +kernel
theorem dm_91_219 : decode (kb_ 91) 219 = .ok (.iconst (0), 1) := by decide +kernel
theorem dm_91_220 : decode (kb_ 91) 220 = .ok (.istore 6, 2) := by decide +kernel
theorem dm_91_222 : decode (kb_ 91) 222 = .ok (.iload 6, 2) := by decide +kernel
theorem dm_91_224 : decode (kb_ 91) 224 = .ok (.aload_n 0, 1) := by decide +kernel
theorem dm_91_225 : decode (kb_ 91) 225 = .ok (.getfield 172, 3) := by decide +kernel
theorem dm_91_228 : decode (kb_ 91) 228 = .ok (.if_icmp .ge (92), 3) := by decide +kernel
theorem dm_91_231 : decode (kb_ 91) 231 = .ok (.iload 5, 2) := by decide +kernel
theorem dm_91_233 : decode (kb_ 91) 233 = .ok (.ifCond .eq (87), 3) := by decide +kernel
theorem dm_91_236 : decode (kb_ 91) 236 = .ok (.bipush (112), 2) := by decide +kernel
theorem dm_91_238 : decode (kb_ 91) 238 = .ok (.iload_n 3, 1) := by decide +kernel
theorem dm_91_239 : decode (kb_ 91) 239 = .ok (.imul, 1) := by decide +kernel
theorem dm_91_240 : decode (kb_ 91) 240 = .ok (.aload_n 0, 1) := by decide +kernel
theorem dm_91_241 : decode (kb_ 91) 241 = .ok (.getfield 68, 3) := by decide +kernel
theorem dm_91_244 : decode (kb_ 91) 244 = .ok (.iload_n 3, 1) := by decide +kernel
theorem dm_91_245 : decode (kb_ 91) 245 = .ok (.iaload, 1) := by decide +kernel
theorem dm_91_246 : decode (kb_ 91) 246 = .ok (.iadd, 1) := by decide +kernel
theorem dm_91_247 : decode (kb_ 91) 247 = .ok (.istore 7, 2) := by decide +kernel
theorem dm_91_249 : decode (kb_ 91) 249 = .ok (.aload_n 0, 1) := by decide +kernel
theorem dm_91_250 : decode (kb_ 91) 250 = .ok (.getfield 71, 3) := by decide +kernel
theorem dm_91_253 : decode (kb_ 91) 253 = .ok (.iload 7, 2) := by decide +kernel
theorem dm_91_255 : decode (kb_ 91) 255 = .ok (.aload_n 0, 1) := by decide +kernel
theorem dm_91_256 : decode (kb_ 91) 256 = .ok (.getfield 40, 3) := by decide +kernel
theorem dm_91_259 : decode (kb_ 91) 259 = .ok (.iload 6, 2) := by decide +kernel
theorem dm_91_261 : decode (kb_ 91) 261 = .ok (.iaload, 1) := by decide +kernel
theorem dm_91_262 : decode (kb_ 91) 262 = .ok (.iastore, 1) := by decide +kernel
theorem dm_91_263 : decode (kb_ 91) 263 = .ok (.aload_n 0, 1) := by decide +kernel
