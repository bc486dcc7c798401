theorem dm_0_0 : decode (kb_ 0) 0 = .ok (.iload_n 0, 1) := by decide +kernel
theorem dm_0_1 : decode (kb_ 0) 1 = .ok (.bipush (8), 2) := by decide +kernel
theorem dm_0_3 : decode (kb_ 0) 3 = .ok (.iload_n 1, 1) := by decide +kernel
theorem dm_0_4 : decode (kb_ 0) 4 = .ok (.imul, 1) := by decide +kernel
theorem dm_0_5 : decode (kb_ 0) 5 = .ok (.iushr, 1) := by decide +kernel
theorem dm_0_6 : decode (kb_ 0) 6 = .ok (.sipush (255), 3) := by decide +kernel
theorem dm_0_9 : decode (kb_ 0) 9 = .ok (.iand, 1) := by decide +kernel
theorem dm_0_10 : decode (kb_ 0) 10 = .ok (.ireturn, 1) := by decide +kernel
theorem dm_1_0 : decode (kb_ 1) 0 = .ok (.iload_n 1, 1) := by decide +kernel
theorem dm_1_1 : decode (kb_ 1) 1 = .ok (.ifCond .lt (15), 3) := by decide +kernel
theorem dm_1_4 : decode (kb_ 1) 4 = .ok (.iload_n 1, 1) := by decide +kernel
theorem dm_1_5 : decode (kb_ 1) 5 = .ok (.aload_n 0, 1) := by decide +kernel
theorem dm_1_6 : decode (kb_ 1) 6 = .ok (.getfield 111, 3) := by decide +kernel
theorem dm_1_9 : decode (kb_ 1) 9 = .ok (.if_icmp .ge (7), 3) := by decide +kernel
theorem dm_1_12 : decode (kb_ 1) 12 = .ok (.iconst (1), 1) := by decide +kernel
theorem dm_1_13 : decode (kb_ 1) 13 = .ok (.goto (4), 3) := by decide +kernel
theorem dm_1_16 : decode (kb_ 1) 16 = .ok (.iconst (0), 1) := by decide +kernel
theorem dm_1_17 : decode (kb_ 1) 17 = .ok (.ireturn, 1) := by decide +kernel
theorem dm_2_0 : decode (kb_ 2) 0 = .ok (.iload_n 0, 1) := by decide +kernel
theorem dm_2_1 : decode (kb_ 2) 1 = .ok (.ifCond .lt (12), 3) := by decide +kernel
theorem dm_2_4 : decode (kb_ 2) 4 = .ok (.iload_n 0, 1) := by decide +kernel
theorem dm_2_5 : decode (kb_ 2) 5 = .ok (.iconst (4), 1) := by decide +kernel
theorem dm_2_6 : decode (kb_ 2) 6 = .ok (.if_icmp .ge (7), 3) := by decide +kernel
theorem dm_2_9 : decode (kb_ 2) 9 = .ok (.iconst (1), 1) := by decide +kernel
theorem dm_2_10 : decode (kb_ 2) 10 = .ok (.goto (4), 3) := by decide +kernel
theorem dm_2_13 : decode (kb_ 2) 13 = .ok (.iconst (0), 1) := by decide +kernel
theorem dm_2_14 : decode (kb_ 2) 14 = .ok (.ireturn, 1) := by decide +kernel
theorem dm_3_0 : decode (kb_ 3) 0 = .ok (.iload_n 0, 1) := by decide +kernel
theorem dm_3_1 : decode (kb_ 3) 1 = .ok (.bipush (97), 2) := by decide +kernel
theorem dm_3_3 : decode (kb_ 3) 3 = .ok (.if_icmp .lt (13), 3) := by decide +kernel
theorem dm_3_6 : decode (kb_ 3) 6 = .ok (.iload_n 0, 1) := by decide +kernel
theorem dm_3_7 : decode (kb_ 3) 7 = .ok (.bipush (122), 2) := by decide +kernel
theorem dm_3_9 : decode (kb_ 3) 9 = .ok (.if_icmp .gt (7), 3) := by decide +kernel
theorem dm_3_12 : decode (kb_ 3) 12 = .ok (.iconst (1), 1) := by decide +kernel
theorem dm_3_13 : decode (kb_ 3) 13 = .ok (.goto (4), 3) := by decide +kernel
theorem dm_3_16 : decode (kb_ 3) 16 = .ok (.iconst (0), 1) := by decide +kernel
theorem dm_3_17 : decode (kb_ 3) 17 = .ok (.ireturn, 1) := by decide +kernel
theorem dm_4_0 : decode (kb_ 4) 0 = .ok (.iload_n 1, 1) := by decide +kernel
theorem dm_4_1 : decode (kb_ 4) 1 = .ok (.ifCond .ne (19), 3) := by decide +kernel
theorem dm_4_4 : decode (kb_ 4) 4 = .ok (.aload_n 0, 1) := by decide +kernel
theorem dm_4_5 : decode (kb_ 4) 5 = .ok (.getfield 56, 3) := by decide +kernel
theorem dm_4_8 : decode (kb_ 4) 8 = .ok (.iconst (2), 1) := by decide +kernel
theorem dm_4_9 : decode (kb_ 4) 9 = .ok (.aload_n 0, 1) := by decide +kernel
theorem dm_4_10 : decode (kb_ 4) 10 = .ok (.getfield 24, 3) := by decide +kernel
theorem dm_4_13 : decode (kb_ 4) 13 = .ok (.invokestatic 65, 3) := by decide +kernel
theorem dm_4_16 : decode (kb_ 4) 16 = .ok (.iadd, 1) := by decide +kernel
theorem dm_4_17 : decode (kb_ 4) 17 = .ok (.goto (4), 3) := by decide +kernel
theorem dm_4_20 : decode (kb_ 4) 20 = .ok (.iconst (1), 1) := by decide +kernel
theorem dm_4_21 : decode (kb_ 4) 21 = .ok (.ireturn, 1) := by decide +kernel
theorem dm_5_0 : decode (kb_ 5) 0 = .ok (.iload_n 1, 1) := by decide +kernel
theorem dm_5_1 : decode (kb_ 5) 1 = .ok (.ifCond .lt (31), 3) := by decide +kernel
theorem dm_5_4 : decode (kb_ 5) 4 = .ok (.iload_n 1, 1) := by decide +kernel
theorem dm_5_5 : decode (kb_ 5) 5 = .ok (.aload_n 0, 1) := by decide +kernel
theorem dm_5_6 : decode (kb_ 5) 6 = .ok (.getfield 24, 3) := by decide +kernel
theorem dm_5_9 : decode (kb_ 5) 9 = .ok (.if_icmp .ge (23), 3) := by decide +kernel
theorem dm_5_12 : decode (kb_ 5) 12 = .ok (.aload_n 0, 1) := by decide +kernel
theorem dm_5_13 : decode (kb_ 5) 13 = .ok (.getfield 20, 3) := by decide +kernel
theorem dm_5_16 : decode (kb_ 5) 16 = .ok (.iload_n 1, 1) := by decide +kernel
theorem dm_5_17 : decode (kb_ 5) 17 = .ok (.iconst (1), 1) := by decide +kernel
theorem dm_5_18 : decode (kb_ 5) 18 = .ok (.iadd, 1) := by decide +kernel
theorem dm_5_19 : decode (kb_ 5) 19 = .ok (.iaload, 1) := by decide +kernel
theorem dm_5_20 : decode (kb_ 5) 20 = .ok (.iconst (1), 1) := by decide +kernel
theorem dm_5_21 : decode (kb_ 5) 21 = .ok (.isub, 1) := by decide +kernel
theorem dm_5_22 : decode (kb_ 5) 22 = .ok (.aload_n 0, 1) := by decide +kernel
theorem dm_5_23 : decode (kb_ 5) 23 = .ok (.getfield 20, 3) := by decide +kernel
theorem dm_5_26 : decode (kb_ 5) 26 = .ok (.iload_n 1, 1) := by decide +kernel
theorem dm_5_27 : decode (kb_ 5) 27 = .ok (.iaload, 1) := by decide +kernel
theorem dm_5_28 : decode (kb_ 5) 28 = .ok (.isub, 1) := by decide +kernel
theorem dm_5_29 : decode (kb_ 5) 29 = .ok (.goto (4), 3) := by decide +kernel
theorem dm_5_32 : decode (kb_ 5) 32 = .ok (.iconst (0), 1) := by decide +kernel
theorem dm_5_33 : decode (kb_ 5) 33 = .ok (.ireturn, 1) := by decide +kernel
theorem dm_6_0 : decode (kb_ 6) 0 = .ok (.iload_n 1, 1) := by decide +kernel
theorem dm_6_1 : decode (kb_ 6) 1 = .ok (.ifCond .le (7), 3) := by decide +kernel
theorem dm_6_4 : decode (kb_ 6) 4 = .ok (.iload_n 1, 1) := by decide +kernel
theorem dm_6_5 : decode (kb_ 6) 5 = .ok (.iconst (1), 1) := by decide +kernel
theorem dm_6_6 : decode (kb_ 6) 6 = .ok (.iadd, 1) := by decide +kernel
theorem dm_6_7 : decode (kb_ 6) 7 = .ok (.ireturn, 1) := by decide +kernel
theorem dm_6_8 : decode (kb_ 6) 8 = .ok (.iload_n 2, 1) := by decide +kernel
theorem dm_6_9 : decode (kb_ 6) 9 = .ok (.aload_n 0, 1) := by decide +kernel
theorem dm_6_10 : decode (kb_ 6) 10 = .ok (.getfield 56, 3) := by decide +kernel
theorem dm_6_13 : decode (kb_ 6) 13 = .ok (.if_icmp .ge (7), 3) := by decide +kernel
theorem dm_6_16 : decode (kb_ 6) 16 = .ok (.iconst (-1), 1) := by decide +kernel
theorem dm_6_17 : decode (kb_ 6) 17 = .ok (.goto (9), 3) := by decide +kernel
theorem dm_6_20 : decode (kb_ 6) 20 = .ok (.iload_n 2, 1) := by decide +kernel
theorem dm_6_21 : decode (kb_ 6) 21 = .ok (.aload_n 0, 1) := by decide +kernel
theorem dm_6_22 : decode (kb_ 6) 22 = .ok (.getfield 56, 3) := by decide +kernel
theorem dm_6_25 : decode (kb_ 6) 25 = .ok (.isub, 1) := by decide +kernel
theorem dm_6_26 : decode (kb_ 6) 26 = .ok (.ireturn, 1) := by decide +kernel
theorem dm_7_0 : decode (kb_ 7) 0 = .ok (.aload_n 0, 1) := by decide +kernel
theorem dm_7_1 : decode (kb_ 7) 1 = .ok (.getfield 24, 3) := by decide +kernel
theorem dm_7_4 : decode (kb_ 7) 4 = .ok (.ireturn, 1) := by decide +kernel
theorem dm_8_0 : decode (kb_ 8) 0 = .ok (.aload_n 0, 1) := by decide +kernel
theorem dm_8_1 : decode (kb_ 8) 1 = .ok (.iload_n 1, 1) := by decide +kernel
theorem dm_8_2 : decode (kb_ 8) 2 = .ok (.putfield 56, 3) := by decide +kernel
theorem dm_8_5 : decode (kb_ 8) 5 = .ok (.return_, 1) := by decide +kernel
theorem dm_9_0 : decode (kb_ 9) 0 = .ok (.aload_n 0, 1) := by decide +kernel
theorem dm_9_1 : decode (kb_ 9) 1 = .ok (.getfield 24, 3) := by decide +kernel
theorem dm_9_4 : decode (kb_ 9) 4 = .ok (.ifCond .ne (16), 3) := by decide +kernel
theorem dm_9_7 : decode (kb_ 9) 7 = .ok (.aload_n 0, 1) := by decide +kernel
theorem dm_9_8 : decode (kb_ 9) 8 = .ok (.getfield 56, 3) := by decide +kernel
theorem dm_9_11 : decode (kb_ 9) 11 = .ok (.ifCond .le (7), 3) := by decide +kernel
theorem dm_9_14 : decode (kb_ 9) 14 = .ok (.iconst (1), 1) := by decide +kernel
theorem dm_9_15 : decode (kb_ 9) 15 = .ok (.goto (4), 3) := by decide +kernel
theorem dm_9_18 : decode (kb_ 9) 18 = .ok (.iconst (0), 1) := by decide +kernel
theorem dm_9_19 : decode (kb_ 9) 19 = .ok (.ireturn, 1) := by decide +kernel
theorem dm_9_20 : decode (kb_ 9) 20 = .ok (.iconst (1), 1) := by decide +kernel
theorem dm_9_21 : decode (kb_ 9) 21 = .ok (.aload_n 0, 1) := by decide +kernel
theorem dm_9_22 : decode (kb_ 9) 22 = .ok (.getfield 24, 3) := by decide +kernel
theorem dm_9_25 : decode (kb_ 9) 25 = .ok (.iconst (1), 1) := by decide +kernel
theorem dm_9_26 : decode (kb_ 9) 26 = .ok (.isub, 1) := by decide +kernel
theorem dm_9_27 : decode (kb_ 9) 27 = .ok (.invokestatic 59, 3) := by decide +kernel
theorem dm_9_30 : decode (kb_ 9) 30 = .ok (.ireturn, 1) := by decide +kernel
theorem dm_10_0 : decode (kb_ 10) 0 = .ok (.aload_n 0, 1) := by decide +kernel
theorem dm_10_1 : decode (kb_ 10) 1 = .ok (.getfield 28, 3) := by decide +kernel
theorem dm_10_4 : decode (kb_ 10) 4 = .ok (.istore_n 2, 1) := by decide +kernel
theorem dm_10_5 : decode (kb_ 10) 5 = .ok (.aload_n 0, 1) := by decide +kernel
theorem dm_10_6 : decode (kb_ 10) 6 = .ok (.iload_n 1, 1) := by decide +kernel
theorem dm_10_7 : decode (kb_ 10) 7 = .ok (.putfield 28, 3) := by decide +kernel
theorem dm_10_10 : decode (kb_ 10) 10 = .ok (.iload_n 2, 1) := by decide +kernel
theorem dm_10_11 : decode (kb_ 10) 11 = .ok (.ireturn, 1) := by decide +kernel
theorem dm_11_0 : decode (kb_ 11) 0 = .ok (.iconst (0), 1) := by decide +kernel
theorem dm_11_1 : decode (kb_ 11) 1 = .ok (.istore_n 1, 1) := by decide +kernel
theorem dm_11_2 : decode (kb_ 11) 2 = .ok (.iload_n 1, 1) := by decide +kernel
theorem dm_11_3 : decode (kb_ 11) 3 = .ok (.iconst (4), 1) := by decide +kernel
theorem dm_11_4 : decode (kb_ 11) 4 = .ok (.if_icmp .ge (20), 3) := by decide +kernel
theorem dm_11_7 : decode (kb_ 11) 7 = .ok (.aload_n 0, 1) := by decide +kernel
theorem dm_11_8 : decode (kb_ 11) 8 = .ok (.getfield 17, 3) := by decide +kernel
theorem dm_11_11 : decode (kb_ 11) 11 = .ok (.iload_n 1, 1) := by decide +kernel
theorem dm_11_12 : decode (kb_ 11) 12 = .ok (.iaload, 1) := by decide +kernel
theorem dm_11_13 : decode (kb_ 11) 13 = .ok (.ifCond .ne (5), 3) := by decide +kernel
theorem dm_11_16 : decode (kb_ 11) 16 = .ok (.iconst (1), 1) := by decide +kernel
theorem dm_11_17 : decode (kb_ 11) 17 = .ok (.ireturn, 1) := by decide +kernel
theorem dm_11_18 : decode (kb_ 11) 18 = .ok (.iinc 1 (1), 3) := by decide +kernel
theorem dm_11_21 : decode (kb_ 11) 21 = .ok (.goto (-19), 3) := by decide +kernel
theorem dm_11_24 : decode (kb_ 11) 24 = .ok (.iconst (0), 1) := by decide +kernel
theorem dm_11_25 : decode (kb_ 11) 25 = .ok (.ireturn, 1) := by decide +kernel
theorem dm_12_0 : decode (kb_ 12) 0 = .ok (.aload_n 0, 1) := by decide +kernel
theorem dm_12_1 : decode (kb_ 12) 1 = .ok (.getfield 28, 3) := by decide +kernel
theorem dm_12_4 : decode (kb_ 12) 4 = .ok (.ireturn, 1) := by decide +kernel
theorem dm_13_0 : decode (kb_ 13) 0 = .ok (.iload_n 1, 1) := by decide +kernel
theorem dm_13_1 : decode (kb_ 13) 1 = .ok (.ifCond .lt (8), 3) := by decide +kernel
theorem dm_13_4 : decode (kb_ 13) 4 = .ok (.iload_n 1, 1) := by decide +kernel
theorem dm_13_5 : decode (kb_ 13) 5 = .ok (.iconst (4), 1) := by decide +kernel
theorem dm_13_6 : decode (kb_ 13) 6 = .ok (.if_icmp .lt (5), 3) := by decide +kernel
theorem dm_13_9 : decode (kb_ 13) 9 = .ok (.iconst (-1), 1) := by decide +kernel
theorem dm_13_10 : decode (kb_ 13) 10 = .ok (.ireturn, 1) := by decide +kernel
theorem dm_13_11 : decode (kb_ 13) 11 = .ok (.aload_n 0, 1) := by decide +kernel
theorem dm_13_12 : decode (kb_ 13) 12 = .ok (.getfield 17, 3) := by decide +kernel
theorem dm_13_15 : decode (kb_ 13) 15 = .ok (.iload_n 1, 1) := by decide +kernel
theorem dm_13_16 : decode (kb_ 13) 16 = .ok (.iaload, 1) := by decide +kernel
theorem dm_13_17 : decode (kb_ 13) 17 = .ok (.istore_n 3, 1) := by decide +kernel
theorem dm_13_18 : decode (kb_ 13) 18 = .ok (.aload_n 0, 1) := by decide +kernel
theorem dm_13_19 : decode (kb_ 13) 19 = .ok (.getfield 17, 3) := by decide +kernel
theorem dm_13_22 : decode (kb_ 13) 22 = .ok (.iload_n 1, 1) := by decide +kernel
theorem dm_13_23 : decode (kb_ 13) 23 = .ok (.iload_n 2, 1) := by decide +kernel
theorem dm_13_24 : decode (kb_ 13) 24 = .ok (.iastore, 1) := by decide +kernel
theorem dm_13_25 : decode (kb_ 13) 25 = .ok (.iload_n 3, 1) := by decide +kernel
theorem dm_13_26 : decode (kb_ 13) 26 = .ok (.ireturn, 1) := by decide +kernel
theorem dm_14_0 : decode (kb_ 14) 0 = .ok (.aload_n 0, 1) := by decide +kernel
theorem dm_14_1 : decode (kb_ 14) 1 = .ok (.getfield 11, 3) := by decide +kernel
theorem dm_14_4 : decode (kb_ 14) 4 = .ok (.iload_n 1, 1) := by decide +kernel
theorem dm_14_5 : decode (kb_ 14) 5 = .ok (.ifCond .lt (8), 3) := by decide +kernel
theorem dm_14_8 : decode (kb_ 14) 8 = .ok (.iload_n 1, 1) := by decide +kernel
theorem dm_14_9 : decode (kb_ 14) 9 = .ok (.iconst (4), 1) := by decide +kernel
theorem dm_14_10 : decode (kb_ 14) 10 = .ok (.if_icmp .lt (7), 3) := by decide +kernel
theorem dm_14_13 : decode (kb_ 14) 13 = .ok (.iconst (0), 1) := by decide +kernel
theorem dm_14_14 : decode (kb_ 14) 14 = .ok (.goto (4), 3) := by decide +kernel
theorem dm_14_17 : decode (kb_ 14) 17 = .ok (.iload_n 1, 1) := by decide +kernel
theorem dm_14_18 : decode (kb_ 14) 18 = .ok (.aaload, 1) := by decide +kernel
theorem dm_14_19 : decode (kb_ 14) 19 = .ok (.areturn, 1) := by decide +kernel
theorem dm_15_0 : decode (kb_ 15) 0 = .ok (.aload_n 0, 1) := by decide +kernel
theorem dm_15_1 : decode (kb_ 15) 1 = .ok (.aload_n 1, 1) := by decide +kernel
theorem dm_15_2 : decode (kb_ 15) 2 = .ok (.putfield 24, 3) := by decide +kernel
theorem dm_15_5 : decode (kb_ 15) 5 = .ok (.return_, 1) := by decide +kernel
theorem dm_16_0 : decode (kb_ 16) 0 = .ok (.aload_n 0, 1) := by decide +kernel
theorem dm_16_1 : decode (kb_ 16) 1 = .ok (.invokespecial 3, 3) := by decide +kernel
theorem dm_16_4 : decode (kb_ 16) 4 = .ok (.aload_n 0, 1) := by decide +kernel
theorem dm_16_5 : decode (kb_ 16) 5 = .ok (.sipush (848), 3) := by decide +kernel
theorem dm_16_8 : decode (kb_ 16) 8 = .ok (.newarray .int, 2) := by decide +kernel
theorem dm_16_10 : decode (kb_ 16) 10 = .ok (.putfield 9, 3) := by decide +kernel
theorem dm_16_13 : decode (kb_ 16) 13 = .ok (.aload_n 0, 1) := by decide +kernel
theorem dm_16_14 : decode (kb_ 16) 14 = .ok (.sipush (849), 3) := by decide +kernel
theorem dm_16_17 : decode (kb_ 16) 17 = .ok (.newarray .int, 2) := by decide +kernel
theorem dm_16_19 : decode (kb_ 16) 19 = .ok (.putfield 15, 3) := by decide +kernel
theorem dm_16_22 : decode (kb_ 16) 22 = .ok (.aload_n 0, 1) := by decide +kernel
theorem dm_16_23 : decode (kb_ 16) 23 = .ok (.sipush (848), 3) := by decide +kernel
theorem dm_16_26 : decode (kb_ 16) 26 = .ok (.newarray .int, 2) := by decide +kernel
theorem dm_16_28 : decode (kb_ 16) 28 = .ok (.putfield 18, 3) := by decide +kernel
theorem dm_16_31 : decode (kb_ 16) 31 = .ok (.return_, 1) := by decide +kernel
theorem dm_17_0 : decode (kb_ 17) 0 = .ok (.aload_n 0, 1) := by decide +kernel
theorem dm_17_1 : decode (kb_ 17) 1 = .ok (.getfield 28, 3) := by decide +kernel
theorem dm_17_4 : decode (kb_ 17) 4 = .ok (.sipush (848), 3) := by decide +kernel
theorem dm_17_7 : decode (kb_ 17) 7 = .ok (.if_icmp .ge (23), 3) := by decide +kernel
theorem dm_17_10 : decode (kb_ 17) 10 = .ok (.aload_n 0, 1) := by decide +kernel
theorem dm_17_11 : decode (kb_ 17) 11 = .ok (.getfield 9, 3) := by decide +kernel
theorem dm_17_14 : decode (kb_ 17) 14 = .ok (.aload_n 0, 1) := by decide +kernel
theorem dm_17_15 : decode (kb_ 17) 15 = .ok (.getfield 28, 3) := by decide +kernel
theorem dm_17_18 : decode (kb_ 17) 18 = .ok (.iload_n 1, 1) := by decide +kernel
theorem dm_17_19 : decode (kb_ 17) 19 = .ok (.iastore, 1) := by decide +kernel
theorem dm_17_20 : decode (kb_ 17) 20 = .ok (.aload_n 0, 1) := by decide +kernel
theorem dm_17_21 : decode (kb_ 17) 21 = .ok (.dup, 1) := by decide +kernel
theorem dm_17_22 : decode (kb_ 17) 22 = .ok (.getfield 28, 3) := by decide +kernel
theorem dm_17_25 : decode (kb_ 17) 25 = .ok (.iconst (1), 1) := by decide +kernel
theorem dm_17_26 : decode (kb_ 17) 26 = .ok (.iadd, 1) := by decide +kernel
theorem dm_17_27 : decode (kb_ 17) 27 = .ok (.putfield 28, 3) := by decide +kernel
theorem dm_17_30 : decode (kb_ 17) 30 = .ok (.return_, 1) := by decide +kernel
theorem dm_18_0 : decode (kb_ 18) 0 = .ok (.iload_n 1, 1) := by decide +kernel
theorem dm_18_1 : decode (kb_ 18) 1 = .ok (.ifCond .lt (20), 3) := by decide +kernel
theorem dm_18_4 : decode (kb_ 18) 4 = .ok (.iload_n 1, 1) := by decide +kernel
theorem dm_18_5 : decode (kb_ 18) 5 = .ok (.aload_n 0, 1) := by decide +kernel
theorem dm_18_6 : decode (kb_ 18) 6 = .ok (.getfield 28, 3) := by decide +kernel
theorem dm_18_9 : decode (kb_ 18) 9 = .ok (.if_icmp .ge (12), 3) := by decide +kernel
theorem dm_18_12 : decode (kb_ 18) 12 = .ok (.aload_n 0, 1) := by decide +kernel
theorem dm_18_13 : decode (kb_ 18) 13 = .ok (.getfield 18, 3) := by decide +kernel
theorem dm_18_16 : decode (kb_ 18) 16 = .ok (.iload_n 1, 1) := by decide +kernel
theorem dm_18_17 : decode (kb_ 18) 17 = .ok (.iaload, 1) := by decide +kernel
theorem dm_18_18 : decode (kb_ 18) 18 = .ok (.goto (7), 3) := by decide +kernel
theorem dm_18_21 : decode (kb_ 18) 21 = .ok (.aload_n 0, 1) := by decide +kernel
theorem dm_18_22 : decode (kb_ 18) 22 = .ok (.getfield 28, 3) := by decide +kernel
theorem dm_18_25 : decode (kb_ 18) 25 = .ok (.ireturn, 1) := by decide +kernel
theorem dm_19_0 : decode (kb_ 19) 0 = .ok (.iconst (0), 1) := by decide +kernel
theorem dm_19_1 : decode (kb_ 19) 1 = .ok (.istore_n 1, 1) := by decide +kernel
theorem dm_19_2 : decode (kb_ 19) 2 = .ok (.iload_n 1, 1) := by decide +kernel
theorem dm_19_3 : decode (kb_ 19) 3 = .ok (.aload_n 0, 1) := by decide +kernel
theorem dm_19_4 : decode (kb_ 19) 4 = .ok (.getfield 28, 3) := by decide +kernel
theorem dm_19_7 : decode (kb_ 19) 7 = .ok (.if_icmp .ge (24), 3) := by decide +kernel
theorem dm_19_10 : decode (kb_ 19) 10 = .ok (.aload_n 0, 1) := by decide +kernel
theorem dm_19_11 : decode (kb_ 19) 11 = .ok (.getfield 9, 3) := by decide +kernel
theorem dm_19_14 : decode (kb_ 19) 14 = .ok (.iload_n 1, 1) := by decide +kernel
theorem dm_19_15 : decode (kb_ 19) 15 = .ok (.iaload, 1) := by decide +kernel
theorem dm_19_16 : decode (kb_ 19) 16 = .ok (.aload_n 0, 1) := by decide +kernel
theorem dm_19_17 : decode (kb_ 19) 17 = .ok (.getfield 21, 3) := by decide +kernel
theorem dm_19_20 : decode (kb_ 19) 20 = .ok (.if_icmp .le (5), 3) := by decide +kernel
theorem dm_19_23 : decode (kb_ 19) 23 = .ok (.iconst (0), 1) := by decide +kernel
theorem dm_19_24 : decode (kb_ 19) 24 = .ok (.ireturn, 1) := by decide +kernel
theorem dm_19_25 : decode (kb_ 19) 25 = .ok (.iinc 1 (1), 3) := by decide +kernel
theorem dm_19_28 : decode (kb_ 19) 28 = .ok (.goto (-26), 3) := by decide +kernel
theorem dm_19_31 : decode (kb_ 19) 31 = .ok (.iconst (1), 1) := by decide +kernel
theorem dm_19_32 : decode (kb_ 19) 32 = .ok (.ireturn, 1) := by decide +kernel
theorem dm_20_0 : decode (kb_ 20) 0 = .ok (.aload_n 0, 1) := by decide +kernel
theorem dm_20_1 : decode (kb_ 20) 1 = .ok (.getfield 28, 3) := by decide +kernel
theorem dm_20_4 : decode (kb_ 20) 4 = .ok (.ireturn, 1) := by decide +kernel
theorem dm_21_0 : decode (kb_ 21) 0 = .ok (.aload_n 0, 1) := by decide +kernel
theorem dm_21_1 : decode (kb_ 21) 1 = .ok (.getfield 15, 3) := by decide +kernel
theorem dm_21_4 : decode (kb_ 21) 4 = .ok (.iconst (0), 1) := by decide +kernel
theorem dm_21_5 : decode (kb_ 21) 5 = .ok (.iaload, 1) := by decide +kernel
theorem dm_21_6 : decode (kb_ 21) 6 = .ok (.ireturn, 1) := by decide +kernel
theorem dm_22_0 : decode (kb_ 22) 0 = .ok (.iload_n 1, 1) := by decide +kernel
theorem dm_22_1 : decode (kb_ 22) 1 = .ok (.ifCond .lt (20), 3) := by decide +kernel
theorem dm_22_4 : decode (kb_ 22) 4 = .ok (.iload_n 1, 1) := by decide +kernel
theorem dm_22_5 : decode (kb_ 22) 5 = .ok (.aload_n 0, 1) := by decide +kernel
theorem dm_22_6 : decode (kb_ 22) 6 = .ok (.getfield 28, 3) := by decide +kernel
theorem dm_22_9 : decode (kb_ 22) 9 = .ok (.if_icmp .ge (12), 3) := by decide +kernel
theorem dm_22_12 : decode (kb_ 22) 12 = .ok (.aload_n 0, 1) := by decide +kernel
theorem dm_22_13 : decode (kb_ 22) 13 = .ok (.getfield 9, 3) := by decide +kernel
theorem dm_22_16 : decode (kb_ 22) 16 = .ok (.iload_n 1, 1) := by decide +kernel
theorem dm_22_17 : decode (kb_ 22) 17 = .ok (.iaload, 1) := by decide +kernel
theorem dm_22_18 : decode (kb_ 22) 18 = .ok (.goto (4), 3) := by decide +kernel
theorem dm_22_21 : decode (kb_ 22) 21 = .ok (.iconst (0), 1) := by decide +kernel
theorem dm_22_22 : decode (kb_ 22) 22 = .ok (.ireturn, 1) := by decide +kernel
theorem dm_23_0 : decode (kb_ 23) 0 = .ok (.aload_n 0, 1) := by decide +kernel
theorem dm_23_1 : decode (kb_ 23) 1 = .ok (.iload_n 1, 1) := by decide +kernel
theorem dm_23_2 : decode (kb_ 23) 2 = .ok (.putfield 21, 3) := by decide +kernel
theorem dm_23_5 : decode (kb_ 23) 5 = .ok (.aload_n 0, 1) := by decide +kernel
theorem dm_23_6 : decode (kb_ 23) 6 = .ok (.iload_n 2, 1) := by decide +kernel
theorem dm_23_7 : decode (kb_ 23) 7 = .ok (.putfield 25, 3) := by decide +kernel
theorem dm_23_10 : decode (kb_ 23) 10 = .ok (.aload_n 0, 1) := by decide +kernel
theorem dm_23_11 : decode (kb_ 23) 11 = .ok (.iconst (0), 1) := by decide +kernel
theorem dm_23_12 : decode (kb_ 23) 12 = .ok (.putfield 28, 3) := by decide +kernel
theorem dm_23_15 : decode (kb_ 23) 15 = .ok (.return_, 1) := by decide +kernel
theorem dm_24_0 : decode (kb_ 24) 0 = .ok (.aload_n 0, 1) := by decide +kernel
theorem dm_24_1 : decode (kb_ 24) 1 = .ok (.dup, 1) := by decide +kernel
theorem dm_24_2 : decode (kb_ 24) 2 = .ok (.getfield 41, 3) := by decide +kernel
theorem dm_24_5 : decode (kb_ 24) 5 = .ok (.iload_n 1, 1) := by decide +kernel
theorem dm_24_6 : decode (kb_ 24) 6 = .ok (.iadd, 1) := by decide +kernel
theorem dm_24_7 : decode (kb_ 24) 7 = .ok (.putfield 41, 3) := by decide +kernel
theorem dm_24_10 : decode (kb_ 24) 10 = .ok (.return_, 1) := by decide +kernel
theorem dm_25_0 : decode (kb_ 25) 0 = .ok (.aload_n 0, 1) := by decide +kernel
theorem dm_25_1 : decode (kb_ 25) 1 = .ok (.getfield 11, 3) := by decide +kernel
theorem dm_25_4 : decode (kb_ 25) 4 = .ok (.iload_n 1, 1) := by decide +kernel
theorem dm_25_5 : decode (kb_ 25) 5 = .ok (.ifCond .lt (9), 3) := by decide +kernel
theorem dm_25_8 : decode (kb_ 25) 8 = .ok (.iload_n 1, 1) := by decide +kernel
theorem dm_25_9 : decode (kb_ 25) 9 = .ok (.bipush (8), 2) := by decide +kernel
theorem dm_25_11 : decode (kb_ 25) 11 = .ok (.if_icmp .lt (7), 3) := by decide +kernel
theorem dm_25_14 : decode (kb_ 25) 14 = .ok (.iconst (0), 1) := by decide +kernel
theorem dm_25_15 : decode (kb_ 25) 15 = .ok (.goto (4), 3) := by decide +kernel
theorem dm_25_18 : decode (kb_ 25) 18 = .ok (.iload_n 1, 1) := by decide +kernel
theorem dm_25_19 : decode (kb_ 25) 19 = .ok (.aaload, 1) := by decide +kernel
theorem dm_25_20 : decode (kb_ 25) 20 = .ok (.areturn, 1) := by decide +kernel
theorem dm_26_0 : decode (kb_ 26) 0 = .ok (.iconst (0), 1) := by decide +kernel
theorem dm_26_1 : decode (kb_ 26) 1 = .ok (.istore_n 2, 1) := by decide +kernel
theorem dm_26_2 : decode (kb_ 26) 2 = .ok (.iload_n 2, 1) := by decide +kernel
theorem dm_26_3 : decode (kb_ 26) 3 = .ok (.aload_n 0, 1) := by decide +kernel
theorem dm_26_4 : decode (kb_ 26) 4 = .ok (.getfield 34, 3) := by decide +kernel
theorem dm_26_7 : decode (kb_ 26) 7 = .ok (.if_icmp .ge (23), 3) := by decide +kernel
theorem dm_26_10 : decode (kb_ 26) 10 = .ok (.iload_n 1, 1) := by decide +kernel
theorem dm_26_11 : decode (kb_ 26) 11 = .ok (.aload_n 0, 1) := by decide +kernel
theorem dm_26_12 : decode (kb_ 26) 12 = .ok (.getfield 17, 3) := by decide +kernel
theorem dm_26_15 : decode (kb_ 26) 15 = .ok (.iload_n 2, 1) := by decide +kernel
theorem dm_26_16 : decode (kb_ 26) 16 = .ok (.iconst (1), 1) := by decide +kernel
theorem dm_26_17 : decode (kb_ 26) 17 = .ok (.iadd, 1) := by decide +kernel
theorem dm_26_18 : decode (kb_ 26) 18 = .ok (.iaload, 1) := by decide +kernel
theorem dm_26_19 : decode (kb_ 26) 19 = .ok (.if_icmp .ge (5), 3) := by decide +kernel
theorem dm_26_22 : decode (kb_ 26) 22 = .ok (.iload_n 2, 1) := by decide +kernel
theorem dm_26_23 : decode (kb_ 26) 23 = .ok (.ireturn, 1) := by decide +kernel
theorem dm_26_24 : decode (kb_ 26) 24 = .ok (.iinc 2 (1), 3) := by decide +kernel
theorem dm_26_27 : decode (kb_ 26) 27 = .ok (.goto (-25), 3) := by decide +kernel
theorem dm_26_30 : decode (kb_ 26) 30 = .ok (.iconst (0), 1) := by decide +kernel
theorem dm_26_31 : decode (kb_ 26) 31 = .ok (.ireturn, 1) := by decide +kernel
theorem dm_27_0 : decode (kb_ 27) 0 = .ok (.iload_n 1, 1) := by decide +kernel
theorem dm_27_1 : decode (kb_ 27) 1 = .ok (.tableswitch (59) (0) (3) #[31, 36, 41, 54], 31) := by decide +kernel
theorem dm_27_32 : decode (kb_ 27) 32 = .ok (.aload_n 0, 1) := by decide +kernel
theorem dm_27_33 : decode (kb_ 27) 33 = .ok (.getfield 85, 3) := by decide +kernel
theorem dm_27_36 : decode (kb_ 27) 36 = .ok (.ireturn, 1) := by decide +kernel
theorem dm_27_37 : decode (kb_ 27) 37 = .ok (.aload_n 0, 1) := by decide +kernel
theorem dm_27_38 : decode (kb_ 27) 38 = .ok (.getfield 38, 3) := by decide +kernel
theorem dm_27_41 : decode (kb_ 27) 41 = .ok (.ireturn, 1) := by decide +kernel
theorem dm_27_42 : decode (kb_ 27) 42 = .ok (.aload_n 0, 1) := by decide +kernel
theorem dm_27_43 : decode (kb_ 27) 43 = .ok (.getfield 81, 3) := by decide +kernel
theorem dm_27_46 : decode (kb_ 27) 46 = .ok (.ifCond .eq (7), 3) := by decide +kernel
theorem dm_27_49 : decode (kb_ 27) 49 = .ok (.iconst (1), 1) := by decide +kernel
theorem dm_27_50 : decode (kb_ 27) 50 = .ok (.goto (4), 3) := by decide +kernel
theorem dm_27_53 : decode (kb_ 27) 53 = .ok (.iconst (0), 1) := by decide +kernel
theorem dm_27_54 : decode (kb_ 27) 54 = .ok (.ireturn, 1) := by decide +kernel
theorem dm_27_55 : decode (kb_ 27) 55 = .ok (.aload_n 0, 1) := by decide +kernel
theorem dm_27_56 : decode (kb_ 27) 56 = .ok (.getfield 41, 3) := by decide +kernel
theorem dm_27_59 : decode (kb_ 27) 59 = .ok (.ireturn, 1) := by decide +kernel
theorem dm_27_60 : decode (kb_ 27) 60 = .ok (.aload_n 0, 1) := by decide +kernel
theorem dm_27_61 : decode (kb_ 27) 61 = .ok (.getfield 71, 3) := by decide +kernel
theorem dm_27_64 : decode (kb_ 27) 64 = .ok (.ireturn, 1) := by decide +kernel
theorem dm_28_0 : decode (kb_ 28) 0 = .ok (.iload_n 1, 1) := by decide +kernel
theorem dm_28_1 : decode (kb_ 28) 1 = .ok (.ifCond .lt (15), 3) := by decide +kernel
theorem dm_28_4 : decode (kb_ 28) 4 = .ok (.iload_n 1, 1) := by decide +kernel
theorem dm_28_5 : decode (kb_ 28) 5 = .ok (.aload_n 0, 1) := by decide +kernel
theorem dm_28_6 : decode (kb_ 28) 6 = .ok (.getfield 34, 3) := by decide +kernel
theorem dm_28_9 : decode (kb_ 28) 9 = .ok (.if_icmp .ge (7), 3) := by decide +kernel
theorem dm_28_12 : decode (kb_ 28) 12 = .ok (.iconst (1), 1) := by decide +kernel
theorem dm_28_13 : decode (kb_ 28) 13 = .ok (.goto (4), 3) := by decide +kernel
theorem dm_28_16 : decode (kb_ 28) 16 = .ok (.iconst (0), 1) := by decide +kernel
theorem dm_28_17 : decode (kb_ 28) 17 = .ok (.ireturn, 1) := by decide +kernel
theorem dm_29_0 : decode (kb_ 29) 0 = .ok (.iconst (1), 1) := by decide +kernel
theorem dm_29_1 : decode (kb_ 29) 1 = .ok (.istore_n 2, 1) := by decide +kernel
theorem dm_29_2 : decode (kb_ 29) 2 = .ok (.iload_n 2, 1) := by decide +kernel
theorem dm_29_3 : decode (kb_ 29) 3 = .ok (.aload_n 0, 1) := by decide +kernel
theorem dm_29_4 : decode (kb_ 29) 4 = .ok (.getfield 85, 3) := by decide +kernel
theorem dm_29_7 : decode (kb_ 29) 7 = .ok (.if_icmp .gt (21), 3) := by decide +kernel
theorem dm_29_10 : decode (kb_ 29) 10 = .ok (.iload_n 1, 1) := by decide +kernel
theorem dm_29_11 : decode (kb_ 29) 11 = .ok (.aload_n 0, 1) := by decide +kernel
theorem dm_29_12 : decode (kb_ 29) 12 = .ok (.getfield 21, 3) := by decide +kernel
theorem dm_29_15 : decode (kb_ 29) 15 = .ok (.iload_n 2, 1) := by decide +kernel
theorem dm_29_16 : decode (kb_ 29) 16 = .ok (.iaload, 1) := by decide +kernel
theorem dm_29_17 : decode (kb_ 29) 17 = .ok (.if_icmp .ge (5), 3) := by decide +kernel
theorem dm_29_20 : decode (kb_ 29) 20 = .ok (.iload_n 2, 1) := by decide +kernel
theorem dm_29_21 : decode (kb_ 29) 21 = .ok (.ireturn, 1) := by decide +kernel
theorem dm_29_22 : decode (kb_ 29) 22 = .ok (.iinc 2 (1), 3) := by decide +kernel
theorem dm_29_25 : decode (kb_ 29) 25 = .ok (.goto (-23), 3) := by decide +kernel
theorem dm_29_28 : decode (kb_ 29) 28 = .ok (.iconst (0), 1) := by decide +kernel
theorem dm_29_29 : decode (kb_ 29) 29 = .ok (.ireturn, 1) := by decide +kernel
theorem dm_30_0 : decode (kb_ 30) 0 = .ok (.aload_n 0, 1) := by decide +kernel
theorem dm_30_1 : decode (kb_ 30) 1 = .ok (.getfield 85, 3) := by decide +kernel
theorem dm_30_4 : decode (kb_ 30) 4 = .ok (.ireturn, 1) := by decide +kernel
theorem dm_31_0 : decode (kb_ 31) 0 = .ok (.aload_n 0, 1) := by decide +kernel
theorem dm_31_1 : decode (kb_ 31) 1 = .ok (.iconst (1), 1) := by decide +kernel
theorem dm_31_2 : decode (kb_ 31) 2 = .ok (.putfield 81, 3) := by decide +kernel
theorem dm_31_5 : decode (kb_ 31) 5 = .ok (.iconst (0), 1) := by decide +kernel
theorem dm_31_6 : decode (kb_ 31) 6 = .ok (.istore_n 2, 1) := by decide +kernel
theorem dm_31_7 : decode (kb_ 31) 7 = .ok (.iload_n 2, 1) := by decide +kernel
theorem dm_31_8 : decode (kb_ 31) 8 = .ok (.aload_n 0, 1) := by decide +kernel
theorem dm_31_9 : decode (kb_ 31) 9 = .ok (.getfield 34, 3) := by decide +kernel
theorem dm_31_12 : decode (kb_ 31) 12 = .ok (.if_icmp .ge (32), 3) := by decide +kernel
theorem dm_31_15 : decode (kb_ 31) 15 = .ok (.iload_n 2, 1) := by decide +kernel
theorem dm_31_16 : decode (kb_ 31) 16 = .ok (.aload_n 1, 1) := by decide +kernel
theorem dm_31_17 : decode (kb_ 31) 17 = .ok (.arraylength, 1) := by decide +kernel
theorem dm_31_18 : decode (kb_ 31) 18 = .ok (.if_icmp .ge (26), 3) := by decide +kernel
theorem dm_31_21 : decode (kb_ 31) 21 = .ok (.aload_n 0, 1) := by decide +kernel
theorem dm_31_22 : decode (kb_ 31) 22 = .ok (.getfield 24, 3) := by decide +kernel
theorem dm_31_25 : decode (kb_ 31) 25 = .ok (.iload_n 2, 1) := by decide +kernel
theorem dm_31_26 : decode (kb_ 31) 26 = .ok (.iaload, 1) := by decide +kernel
theorem dm_31_27 : decode (kb_ 31) 27 = .ok (.aload_n 1, 1) := by decide +kernel
theorem dm_31_28 : decode (kb_ 31) 28 = .ok (.iload_n 2, 1) := by decide +kernel
theorem dm_31_29 : decode (kb_ 31) 29 = .ok (.iaload, 1) := by decide +kernel
theorem dm_31_30 : decode (kb_ 31) 30 = .ok (.if_icmp .eq (8), 3) := by decide +kernel
theorem dm_31_33 : decode (kb_ 31) 33 = .ok (.aload_n 0, 1) := by decide +kernel
theorem dm_31_34 : decode (kb_ 31) 34 = .ok (.iconst (0), 1) := by decide +kernel
theorem dm_31_35 : decode (kb_ 31) 35 = .ok (.putfield 81, 3) := by decide +kernel
theorem dm_31_38 : decode (kb_ 31) 38 = .ok (.iinc 2 (1), 3) := by decide +kernel
theorem dm_31_41 : decode (kb_ 31) 41 = .ok (.goto (-34), 3) := by decide +kernel
theorem dm_31_44 : decode (kb_ 31) 44 = .ok (.aload_n 0, 1) := by decide +kernel
theorem dm_31_45 : decode (kb_ 31) 45 = .ok (.getfield 81, 3) := by decide +kernel
theorem dm_31_48 : decode (kb_ 31) 48 = .ok (.ireturn, 1) := by decide +kernel
theorem dm_32_0 : decode (kb_ 32) 0 = .ok (.aload_n 0, 1) := by decide +kernel
theorem dm_32_1 : decode (kb_ 32) 1 = .ok (.iload_n 1, 1) := by decide +kernel
theorem dm_32_2 : decode (kb_ 32) 2 = .ok (.bipush (8), 2) := by decide +kernel
theorem dm_32_4 : decode (kb_ 32) 4 = .ok (.invokestatic 28, 3) := by decide +kernel
theorem dm_32_7 : decode (kb_ 32) 7 = .ok (.putfield 34, 3) := by decide +kernel
theorem dm_32_10 : decode (kb_ 32) 10 = .ok (.aload_n 0, 1) := by decide +kernel
theorem dm_32_11 : decode (kb_ 32) 11 = .ok (.iload_n 2, 1) := by decide +kernel
theorem dm_32_12 : decode (kb_ 32) 12 = .ok (.putfield 38, 3) := by decide +kernel
theorem dm_32_15 : decode (kb_ 32) 15 = .ok (.aload_n 0, 1) := by decide +kernel
theorem dm_32_16 : decode (kb_ 32) 16 = .ok (.iconst (0), 1) := by decide +kernel
theorem dm_32_17 : decode (kb_ 32) 17 = .ok (.putfield 41, 3) := by decide +kernel
theorem dm_32_20 : decode (kb_ 32) 20 = .ok (.return_, 1) := by decide +kernel
theorem dm_33_0 : decode (kb_ 33) 0 = .ok (.iconst (0), 1) := by decide +kernel
theorem dm_33_1 : decode (kb_ 33) 1 = .ok (.istore_n 2, 1) := by decide +kernel
theorem dm_33_2 : decode (kb_ 33) 2 = .ok (.iload_n 2, 1) := by decide +kernel
theorem dm_33_3 : decode (kb_ 33) 3 = .ok (.aload_n 0, 1) := by decide +kernel
theorem dm_33_4 : decode (kb_ 33) 4 = .ok (.getfield 34, 3) := by decide +kernel
theorem dm_33_7 : decode (kb_ 33) 7 = .ok (.if_icmp .ge (24), 3) := by decide +kernel
theorem dm_33_10 : decode (kb_ 33) 10 = .ok (.iload_n 2, 1) := by decide +kernel
theorem dm_33_11 : decode (kb_ 33) 11 = .ok (.aload_n 1, 1) := by decide +kernel
theorem dm_33_12 : decode (kb_ 33) 12 = .ok (.arraylength, 1) := by decide +kernel
theorem dm_33_13 : decode (kb_ 33) 13 = .ok (.if_icmp .ge (18), 3) := by decide +kernel
theorem dm_33_16 : decode (kb_ 33) 16 = .ok (.aload_n 1, 1) := by decide +kernel
theorem dm_33_17 : decode (kb_ 33) 17 = .ok (.iload_n 2, 1) := by decide +kernel
theorem dm_33_18 : decode (kb_ 33) 18 = .ok (.aload_n 0, 1) := by decide +kernel
theorem dm_33_19 : decode (kb_ 33) 19 = .ok (.getfield 24, 3) := by decide +kernel
theorem dm_33_22 : decode (kb_ 33) 22 = .ok (.iload_n 2, 1) := by decide +kernel
theorem dm_33_23 : decode (kb_ 33) 23 = .ok (.iaload, 1) := by decide +kernel
theorem dm_33_24 : decode (kb_ 33) 24 = .ok (.iastore, 1) := by decide +kernel
theorem dm_33_25 : decode (kb_ 33) 25 = .ok (.iinc 2 (1), 3) := by decide +kernel
theorem dm_33_28 : decode (kb_ 33) 28 = .ok (.goto (-26), 3) := by decide +kernel
theorem dm_33_31 : decode (kb_ 33) 31 = .ok (.return_, 1) := by decide +kernel
theorem dm_34_0 : decode (kb_ 34) 0 = .ok (.aload_n 0, 1) := by decide +kernel
theorem dm_34_1 : decode (kb_ 34) 1 = .ok (.invokespecial 3, 3) := by decide +kernel
theorem dm_34_4 : decode (kb_ 34) 4 = .ok (.aload_n 0, 1) := by decide +kernel
theorem dm_34_5 : decode (kb_ 34) 5 = .ok (.iconst (0), 1) := by decide +kernel
theorem dm_34_6 : decode (kb_ 34) 6 = .ok (.iload_n 1, 1) := by decide +kernel
theorem dm_34_7 : decode (kb_ 34) 7 = .ok (.invokestatic 9, 3) := by decide +kernel
theorem dm_34_10 : decode (kb_ 34) 10 = .ok (.newarray .char, 2) := by decide +kernel
theorem dm_34_12 : decode (kb_ 34) 12 = .ok (.putfield 15, 3) := by decide +kernel
theorem dm_34_15 : decode (kb_ 34) 15 = .ok (.return_, 1) := by decide +kernel
theorem dm_35_0 : decode (kb_ 35) 0 = .ok (.aload_n 0, 1) := by decide +kernel
theorem dm_35_1 : decode (kb_ 35) 1 = .ok (.getfield 21, 3) := by decide +kernel
theorem dm_35_4 : decode (kb_ 35) 4 = .ok (.aload_n 0, 1) := by decide +kernel
theorem dm_35_5 : decode (kb_ 35) 5 = .ok (.getfield 15, 3) := by decide +kernel
theorem dm_35_8 : decode (kb_ 35) 8 = .ok (.arraylength, 1) := by decide +kernel
theorem dm_35_9 : decode (kb_ 35) 9 = .ok (.if_icmp .ge (24), 3) := by decide +kernel
theorem dm_35_12 : decode (kb_ 35) 12 = .ok (.aload_n 0, 1) := by decide +kernel
theorem dm_35_13 : decode (kb_ 35) 13 = .ok (.getfield 15, 3) := by decide +kernel
theorem dm_35_16 : decode (kb_ 35) 16 = .ok (.aload_n 0, 1) := by decide +kernel
theorem dm_35_17 : decode (kb_ 35) 17 = .ok (.getfield 21, 3) := by decide +kernel
theorem dm_35_20 : decode (kb_ 35) 20 = .ok (.iload_n 1, 1) := by decide +kernel
theorem dm_35_21 : decode (kb_ 35) 21 = .ok (.i2c, 1) := by decide +kernel
theorem dm_35_22 : decode (kb_ 35) 22 = .ok (.castore, 1) := by decide +kernel
theorem dm_35_23 : decode (kb_ 35) 23 = .ok (.aload_n 0, 1) := by decide +kernel
theorem dm_35_24 : decode (kb_ 35) 24 = .ok (.dup, 1) := by decide +kernel
theorem dm_35_25 : decode (kb_ 35) 25 = .ok (.getfield 21, 3) := by decide +kernel
theorem dm_35_28 : decode (kb_ 35) 28 = .ok (.iconst (1), 1) := by decide +kernel
theorem dm_35_29 : decode (kb_ 35) 29 = .ok (.iadd, 1) := by decide +kernel
theorem dm_35_30 : decode (kb_ 35) 30 = .ok (.putfield 21, 3) := by decide +kernel
theorem dm_35_33 : decode (kb_ 35) 33 = .ok (.return_, 1) := by decide +kernel
theorem dm_36_0 : decode (kb_ 36) 0 = .ok (.iload_n 1, 1) := by decide +kernel
theorem dm_36_1 : decode (kb_ 36) 1 = .ok (.ifCond .lt (20), 3) := by decide +kernel
theorem dm_36_4 : decode (kb_ 36) 4 = .ok (.iload_n 1, 1) := by decide +kernel
theorem dm_36_5 : decode (kb_ 36) 5 = .ok (.aload_n 0, 1) := by decide +kernel
theorem dm_36_6 : decode (kb_ 36) 6 = .ok (.getfield 21, 3) := by decide +kernel
theorem dm_36_9 : decode (kb_ 36) 9 = .ok (.if_icmp .ge (12), 3) := by decide +kernel
theorem dm_36_12 : decode (kb_ 36) 12 = .ok (.aload_n 0, 1) := by decide +kernel
theorem dm_36_13 : decode (kb_ 36) 13 = .ok (.getfield 15, 3) := by decide +kernel
theorem dm_36_16 : decode (kb_ 36) 16 = .ok (.iload_n 1, 1) := by decide +kernel
theorem dm_36_17 : decode (kb_ 36) 17 = .ok (.caload, 1) := by decide +kernel
theorem dm_36_18 : decode (kb_ 36) 18 = .ok (.goto (4), 3) := by decide +kernel
theorem dm_36_21 : decode (kb_ 36) 21 = .ok (.iconst (0), 1) := by decide +kernel
theorem dm_36_22 : decode (kb_ 36) 22 = .ok (.ireturn, 1) := by decide +kernel
theorem dm_37_0 : decode (kb_ 37) 0 = .ok (.aload_n 0, 1) := by decide +kernel
theorem dm_37_1 : decode (kb_ 37) 1 = .ok (.iconst (0), 1) := by decide +kernel
theorem dm_37_2 : decode (kb_ 37) 2 = .ok (.putfield 21, 3) := by decide +kernel
theorem dm_37_5 : decode (kb_ 37) 5 = .ok (.return_, 1) := by decide +kernel
theorem dm_38_0 : decode (kb_ 38) 0 = .ok (.iconst (0), 1) := by decide +kernel
theorem dm_38_1 : decode (kb_ 38) 1 = .ok (.istore_n 2, 1) := by decide +kernel
theorem dm_38_2 : decode (kb_ 38) 2 = .ok (.iload_n 2, 1) := by decide +kernel
theorem dm_38_3 : decode (kb_ 38) 3 = .ok (.aload_n 0, 1) := by decide +kernel
theorem dm_38_4 : decode (kb_ 38) 4 = .ok (.getfield 21, 3) := by decide +kernel
theorem dm_38_7 : decode (kb_ 38) 7 = .ok (.if_icmp .ge (21), 3) := by decide +kernel
theorem dm_38_10 : decode (kb_ 38) 10 = .ok (.aload_n 0, 1) := by decide +kernel
theorem dm_38_11 : decode (kb_ 38) 11 = .ok (.getfield 15, 3) := by decide +kernel
theorem dm_38_14 : decode (kb_ 38) 14 = .ok (.iload_n 2, 1) := by decide +kernel
theorem dm_38_15 : decode (kb_ 38) 15 = .ok (.caload, 1) := by decide +kernel
theorem dm_38_16 : decode (kb_ 38) 16 = .ok (.iload_n 1, 1) := by decide +kernel
theorem dm_38_17 : decode (kb_ 38) 17 = .ok (.if_icmp .ne (5), 3) := by decide +kernel
theorem dm_38_20 : decode (kb_ 38) 20 = .ok (.iload_n 2, 1) := by decide +kernel
theorem dm_38_21 : decode (kb_ 38) 21 = .ok (.ireturn, 1) := by decide +kernel
theorem dm_38_22 : decode (kb_ 38) 22 = .ok (.iinc 2 (1), 3) := by decide +kernel
theorem dm_38_25 : decode (kb_ 38) 25 = .ok (.goto (-23), 3) := by decide +kernel
theorem dm_38_28 : decode (kb_ 38) 28 = .ok (.iconst (-1), 1) := by decide +kernel
theorem dm_38_29 : decode (kb_ 38) 29 = .ok (.ireturn, 1) := by decide +kernel
theorem dm_39_0 : decode (kb_ 39) 0 = .ok (.aload_n 0, 1) := by decide +kernel
theorem dm_39_1 : decode (kb_ 39) 1 = .ok (.getfield 21, 3) := by decide +kernel
theorem dm_39_4 : decode (kb_ 39) 4 = .ok (.ireturn, 1) := by decide +kernel
theorem dm_40_0 : decode (kb_ 40) 0 = .ok (.iload_n 1, 1) := by decide +kernel
theorem dm_40_1 : decode (kb_ 40) 1 = .ok (.aload_n 0, 1) := by decide +kernel
theorem dm_40_2 : decode (kb_ 40) 2 = .ok (.arraylength, 1) := by decide +kernel
theorem dm_40_3 : decode (kb_ 40) 3 = .ok (.if_icmp .ge (9), 3) := by decide +kernel
theorem dm_40_6 : decode (kb_ 40) 6 = .ok (.aload_n 0, 1) := by decide +kernel
theorem dm_40_7 : decode (kb_ 40) 7 = .ok (.iload_n 1, 1) := by decide +kernel
theorem dm_40_8 : decode (kb_ 40) 8 = .ok (.iaload, 1) := by decide +kernel
theorem dm_40_9 : decode (kb_ 40) 9 = .ok (.goto (4), 3) := by decide +kernel
theorem dm_40_12 : decode (kb_ 40) 12 = .ok (.iconst (0), 1) := by decide +kernel
theorem dm_40_13 : decode (kb_ 40) 13 = .ok (.ireturn, 1) := by decide +kernel
theorem dm_41_0 : decode (kb_ 41) 0 = .ok (.aload_n 0, 1) := by decide +kernel
theorem dm_41_1 : decode (kb_ 41) 1 = .ok (.invokespecial 1, 3) := by decide +kernel
theorem dm_41_4 : decode (kb_ 41) 4 = .ok (.aload_n 0, 1) := by decide +kernel
theorem dm_41_5 : decode (kb_ 41) 5 = .ok (.bipush (32), 2) := by decide +kernel
theorem dm_41_7 : decode (kb_ 41) 7 = .ok (.newarray .int, 2) := by decide +kernel
theorem dm_41_9 : decode (kb_ 41) 9 = .ok (.putfield 7, 3) := by decide +kernel
theorem dm_41_12 : decode (kb_ 41) 12 = .ok (.aload_n 0, 1) := by decide +kernel
theorem dm_41_13 : decode (kb_ 41) 13 = .ok (.bipush (6), 2) := by decide +kernel
theorem dm_41_15 : decode (kb_ 41) 15 = .ok (.newarray .int, 2) := by decide +kernel
theorem dm_41_17 : decode (kb_ 41) 17 = .ok (.putfield 13, 3) := by decide +kernel
theorem dm_41_20 : decode (kb_ 41) 20 = .ok (.aload_n 0, 1) := by decide +kernel
theorem dm_41_21 : decode (kb_ 41) 21 = .ok (.sipush (192), 3) := by decide +kernel
theorem dm_41_24 : decode (kb_ 41) 24 = .ok (.newarray .int, 2) := by decide +kernel
theorem dm_41_26 : decode (kb_ 41) 26 = .ok (.putfield 16, 3) := by decide +kernel
theorem dm_41_29 : decode (kb_ 41) 29 = .ok (.aload_n 0, 1) := by decide +kernel
theorem dm_41_30 : decode (kb_ 41) 30 = .ok (.bipush (8), 2) := by decide +kernel
theorem dm_41_32 : decode (kb_ 41) 32 = .ok (.newarray .int, 2) := by decide +kernel
theorem dm_41_34 : decode (kb_ 41) 34 = .ok (.putfield 19, 3) := by decide +kernel
theorem dm_41_37 : decode (kb_ 41) 37 = .ok (.aload_n 0, 1) := by decide +kernel
theorem dm_41_38 : decode (kb_ 41) 38 = .ok (.bipush (32), 2) := by decide +kernel
theorem dm_41_40 : decode (kb_ 41) 40 = .ok (.newarray .int, 2) := by decide +kernel
theorem dm_41_42 : decode (kb_ 41) 42 = .ok (.putfield 22, 3) := by decide +kernel
theorem dm_41_45 : decode (kb_ 41) 45 = .ok (.aload_n 0, 1) := by decide +kernel
theorem dm_41_46 : decode (kb_ 41) 46 = .ok (.sipush (1024), 3) := by decide +kernel
theorem dm_41_49 : decode (kb_ 41) 49 = .ok (.newarray .int, 2) := by decide +kernel
theorem dm_41_51 : decode (kb_ 41) 51 = .ok (.putfield 25, 3) := by decide +kernel
theorem dm_41_54 : decode (kb_ 41) 54 = .ok (.aload_n 0, 1) := by decide +kernel
theorem dm_41_55 : decode (kb_ 41) 55 = .ok (.bipush (8), 2) := by decide +kernel
theorem dm_41_57 : decode (kb_ 41) 57 = .ok (.newarray .int, 2) := by decide +kernel
theorem dm_41_59 : decode (kb_ 41) 59 = .ok (.putfield 28, 3) := by decide +kernel
theorem dm_41_62 : decode (kb_ 41) 62 = .ok (.aload_n 0, 1) := by decide +kernel
theorem dm_41_63 : decode (kb_ 41) 63 = .ok (.bipush (32), 2) := by decide +kernel
theorem dm_41_65 : decode (kb_ 41) 65 = .ok (.newarray .int, 2) := by decide +kernel
theorem dm_41_67 : decode (kb_ 41) 67 = .ok (.putfield 31, 3) := by decide +kernel
theorem dm_41_70 : decode (kb_ 41) 70 = .ok (.aload_n 0, 1) := by decide +kernel
theorem dm_41_71 : decode (kb_ 41) 71 = .ok (.bipush (26), 2) := by decide +kernel
theorem dm_41_73 : decode (kb_ 41) 73 = .ok (.newarray .int, 2) := by decide +kernel
theorem dm_41_75 : decode (kb_ 41) 75 = .ok (.putfield 34, 3) := by decide +kernel
theorem dm_41_78 : decode (kb_ 41) 78 = .ok (.aload_n 0, 1) := by decide +kernel
theorem dm_41_79 : decode (kb_ 41) 79 = .ok (.sipush (256), 3) := by decide +kernel
theorem dm_41_82 : decode (kb_ 41) 82 = .ok (.newarray .int, 2) := by decide +kernel
theorem dm_41_84 : decode (kb_ 41) 84 = .ok (.putfield 37, 3) := by decide +kernel
theorem dm_41_87 : decode (kb_ 41) 87 = .ok (.aload_n 0, 1) := by decide +kernel
theorem dm_41_88 : decode (kb_ 41) 88 = .ok (.sipush (130), 3) := by decide +kernel
theorem dm_41_91 : decode (kb_ 41) 91 = .ok (.newarray .int, 2) := by decide +kernel
theorem dm_41_93 : decode (kb_ 41) 93 = .ok (.putfield 40, 3) := by decide +kernel
theorem dm_41_96 : decode (kb_ 41) 96 = .ok (.aload_n 0, 1) := by decide +kernel
theorem dm_41_97 : decode (kb_ 41) 97 = .ok (.sipush (130), 3) := by decide +kernel
theorem dm_41_100 : decode (kb_ 41) 100 = .ok (.newarray .int, 2) := by decide +kernel
theorem dm_41_102 : decode (kb_ 41) 102 = .ok (.putfield 43, 3) := by decide +kernel
theorem dm_41_105 : decode (kb_ 41) 105 = .ok (.aload_n 0, 1) := by decide +kernel
theorem dm_41_106 : decode (kb_ 41) 106 = .ok (.sipush (901), 3) := by decide +kernel
theorem dm_41_109 : decode (kb_ 41) 109 = .ok (.newarray .int, 2) := by decide +kernel
theorem dm_41_111 : decode (kb_ 41) 111 = .ok (.putfield 46, 3) := by decide +kernel
theorem dm_41_114 : decode (kb_ 41) 114 = .ok (.aload_n 0, 1) := by decide +kernel
theorem dm_41_115 : decode (kb_ 41) 115 = .ok (.sipush (901), 3) := by decide +kernel
theorem dm_41_118 : decode (kb_ 41) 118 = .ok (.newarray .int, 2) := by decide +kernel
theorem dm_41_120 : decode (kb_ 41) 120 = .ok (.putfield 49, 3) := by decide +kernel
theorem dm_41_123 : decode (kb_ 41) 123 = .ok (.aload_n 0, 1) := by decide +kernel
theorem dm_41_124 : decode (kb_ 41) 124 = .ok (.iconst (-1), 1) := by decide +kernel
theorem dm_41_125 : decode (kb_ 41) 125 = .ok (.putfield 52, 3) := by decide +kernel
theorem dm_41_128 : decode (kb_ 41) 128 = .ok (.aload_n 0, 1) := by decide +kernel
theorem dm_41_129 : decode (kb_ 41) 129 = .ok (.iconst (2), 1) := by decide +kernel
theorem dm_41_130 : decode (kb_ 41) 130 = .ok (.newarray .int, 2) := by decide +kernel
theorem dm_41_132 : decode (kb_ 41) 132 = .ok (.putfield 56, 3) := by decide +kernel
theorem dm_41_135 : decode (kb_ 41) 135 = .ok (.aload_n 0, 1) := by decide +kernel
theorem dm_41_136 : decode (kb_ 41) 136 = .ok (.bipush (10), 2) := by decide +kernel
theorem dm_41_138 : decode (kb_ 41) 138 = .ok (.newarray .int, 2) := by decide +kernel
theorem dm_41_140 : decode (kb_ 41) 140 = .ok (.putfield 59, 3) := by decide +kernel
theorem dm_41_143 : decode (kb_ 41) 143 = .ok (.aload_n 0, 1) := by decide +kernel
theorem dm_41_144 : decode (kb_ 41) 144 = .ok (.bipush (16), 2) := by decide +kernel
theorem dm_41_146 : decode (kb_ 41) 146 = .ok (.newarray .int, 2) := by decide +kernel
theorem dm_41_148 : decode (kb_ 41) 148 = .ok (.putfield 62, 3) := by decide +kernel
theorem dm_41_151 : decode (kb_ 41) 151 = .ok (.aload_n 0, 1) := by decide +kernel
theorem dm_41_152 : decode (kb_ 41) 152 = .ok (.bipush (8), 2) := by decide +kernel
theorem dm_41_154 : decode (kb_ 41) 154 = .ok (.newarray .int, 2) := by decide +kernel
theorem dm_41_156 : decode (kb_ 41) 156 = .ok (.putfield 65, 3) := by decide +kernel
theorem dm_41_159 : decode (kb_ 41) 159 = .ok (.aload_n 0, 1) := by decide +kernel
theorem dm_41_160 : decode (kb_ 41) 160 = .ok (.bipush (16), 2) := by decide +kernel
theorem dm_41_162 : decode (kb_ 41) 162 = .ok (.newarray .int, 2) := by decide +kernel
theorem dm_41_164 : decode (kb_ 41) 164 = .ok (.putfield 68, 3) := by decide +kernel
theorem dm_41_167 : decode (kb_ 41) 167 = .ok (.aload_n 0, 1) := by decide +kernel
theorem dm_41_168 : decode (kb_ 41) 168 = .ok (.sipush (1792), 3) := by decide +kernel
theorem dm_41_171 : decode (kb_ 41) 171 = .ok (.newarray .int, 2) := by decide +kernel
theorem dm_41_173 : decode (kb_ 41) 173 = .ok (.putfield 71, 3) := by decide +kernel
theorem dm_41_176 : decode (kb_ 41) 176 = .ok (.aload_n 0, 1) := by decide +kernel
theorem dm_41_177 : decode (kb_ 41) 177 = .ok (.sipush (1792), 3) := by decide +kernel
theorem dm_41_180 : decode (kb_ 41) 180 = .ok (.newarray .int, 2) := by decide +kernel
theorem dm_41_182 : decode (kb_ 41) 182 = .ok (.putfield 74, 3) := by decide +kernel
theorem dm_41_185 : decode (kb_ 41) 185 = .ok (.aload_n 0, 1) := by decide +kernel
theorem dm_41_186 : decode (kb_ 41) 186 = .ok (.sipush (3840), 3) := by decide +kernel
theorem dm_41_189 : decode (kb_ 41) 189 = .ok (.newarray .int, 2) := by decide +kernel
theorem dm_41_191 : decode (kb_ 41) 191 = .ok (.putfield 77, 3) := by decide +kernel
theorem dm_41_194 : decode (kb_ 41) 194 = .ok (.aload_n 0, 1) := by decide +kernel
theorem dm_41_195 : decode (kb_ 41) 195 = .ok (.iconst (2), 1) := by decide +kernel
theorem dm_41_196 : decode (kb_ 41) 196 = .ok (.newarray .int, 2) := by decide +kernel
theorem dm_41_198 : decode (kb_ 41) 198 = .ok (.putfield 80, 3) := by decide +kernel
theorem dm_41_201 : decode (kb_ 41) 201 = .ok (.aload_n 0, 1) := by decide +kernel
theorem dm_41_202 : decode (kb_ 41) 202 = .ok (.sipush (1800), 3) := by decide +kernel
theorem dm_41_205 : decode (kb_ 41) 205 = .ok (.newarray .int, 2) := by decide +kernel
theorem dm_41_207 : decode (kb_ 41) 207 = .ok (.putfield 83, 3) := by decide +kernel
