theorem dm_41_210 : decode (kb_ 41) 210 = .ok (.aload_n 0, 1) := by decide +kernel
theorem dm_41_211 : decode (kb_ 41) 211 = .ok (.sipush (1800), 3) := by decide +kernel
theorem dm_41_214 : decode (kb_ 41) 214 = .ok (.newarray .int, 2) := by decide +kernel
theorem dm_41_216 : decode (kb_ 41) 216 = .ok (.putfield 86, 3) := by decide +kernel
theorem dm_41_219 : decode (kb_ 41) 219 = .ok (.aload_n 0, 1) := by decide +kernel
theorem dm_41_220 : decode (kb_ 41) 220 = .ok (.sipush (1800), 3) := by decide +kernel
theorem dm_41_223 : decode (kb_ 41) 223 = .ok (.newarray .int, 2) := by decide +kernel
theorem dm_41_225 : decode (kb_ 41) 225 = .ok (.putfield 89, 3) := by decide +kernel
theorem dm_41_228 : decode (kb_ 41) 228 = .ok (.aload_n 0, 1) := by decide +kernel
theorem dm_41_229 : decode (kb_ 41) 229 = .ok (.sipush (1800), 3) := by decide +kernel
theorem dm_41_232 : decode (kb_ 41) 232 = .ok (.newarray .int, 2) := by decide +kernel
theorem dm_41_234 : decode (kb_ 41) 234 = .ok (.putfield 92, 3) := by decide +kernel
theorem dm_41_237 : decode (kb_ 41) 237 = .ok (.aload_n 0, 1) := by decide +kernel
theorem dm_41_238 : decode (kb_ 41) 238 = .ok (.sipush (1800), 3) := by decide +kernel
theorem dm_41_241 : decode (kb_ 41) 241 = .ok (.newarray .int, 2) := by decide +kernel
theorem dm_41_243 : decode (kb_ 41) 243 = .ok (.putfield 95, 3) := by decide +kernel
theorem dm_41_246 : decode (kb_ 41) 246 = .ok (.aload_n 0, 1) := by decide +kernel
theorem dm_41_247 : decode (kb_ 41) 247 = .ok (.sipush (1800), 3) := by decide +kernel
theorem dm_41_250 : decode (kb_ 41) 250 = .ok (.newarray .int, 2) := by decide +kernel
theorem dm_41_252 : decode (kb_ 41) 252 = .ok (.putfield 98, 3) := by decide +kernel
theorem dm_41_255 : decode (kb_ 41) 255 = .ok (.aload_n 0, 1) := by decide +kernel
theorem dm_41_256 : decode (kb_ 41) 256 = .ok (.iload_n 1, 1) := by decide +kernel
theorem dm_41_257 : decode (kb_ 41) 257 = .ok (.bipush (6), 2) := by decide +kernel
theorem dm_41_259 : decode (kb_ 41) 259 = .ok (.if_icmp .ge (8), 3) := by decide +kernel
theorem dm_41_262 : decode (kb_ 41) 262 = .ok (.bipush (6), 2) := by decide +kernel
theorem dm_41_264 : decode (kb_ 41) 264 = .ok (.goto (15), 3) := by decide +kernel
theorem dm_41_267 : decode (kb_ 41) 267 = .ok (.iload_n 1, 1) := by decide +kernel
theorem dm_41_268 : decode (kb_ 41) 268 = .ok (.bipush (40), 2) := by decide +kernel
theorem dm_41_270 : decode (kb_ 41) 270 = .ok (.if_icmp .le (8), 3) := by decide +kernel
theorem dm_41_273 : decode (kb_ 41) 273 = .ok (.bipush (40), 2) := by decide +kernel
theorem dm_41_275 : decode (kb_ 41) 275 = .ok (.goto (4), 3) := by decide +kernel
theorem dm_41_278 : decode (kb_ 41) 278 = .ok (.iload_n 1, 1) := by decide +kernel
theorem dm_41_279 : decode (kb_ 41) 279 = .ok (.putfield 101, 3) := by decide +kernel
theorem dm_41_282 : decode (kb_ 41) 282 = .ok (.aload_n 0, 1) := by decide +kernel
theorem dm_41_283 : decode (kb_ 41) 283 = .ok (.iload_n 2, 1) := by decide +kernel
theorem dm_41_284 : decode (kb_ 41) 284 = .ok (.iconst (3), 1) := by decide +kernel
theorem dm_41_285 : decode (kb_ 41) 285 = .ok (.if_icmp .ge (7), 3) := by decide +kernel
theorem dm_41_288 : decode (kb_ 41) 288 = .ok (.iconst (3), 1) := by decide +kernel
theorem dm_41_289 : decode (kb_ 41) 289 = .ok (.goto (15), 3) := by decide +kernel
theorem dm_41_292 : decode (kb_ 41) 292 = .ok (.iload_n 2, 1) := by decide +kernel
theorem dm_41_293 : decode (kb_ 41) 293 = .ok (.bipush (30), 2) := by decide +kernel
theorem dm_41_295 : decode (kb_ 41) 295 = .ok (.if_icmp .le (8), 3) := by decide +kernel
theorem dm_41_298 : decode (kb_ 41) 298 = .ok (.bipush (30), 2) := by decide +kernel
theorem dm_41_300 : decode (kb_ 41) 300 = .ok (.goto (4), 3) := by decide +kernel
theorem dm_41_303 : decode (kb_ 41) 303 = .ok (.iload_n 2, 1) := by decide +kernel
theorem dm_41_304 : decode (kb_ 41) 304 = .ok (.putfield 104, 3) := by decide +kernel
theorem dm_41_307 : decode (kb_ 41) 307 = .ok (.iconst (0), 1) := by decide +kernel
theorem dm_41_308 : decode (kb_ 41) 308 = .ok (.istore_n 3, 1) := by decide +kernel
theorem dm_41_309 : decode (kb_ 41) 309 = .ok (.iload_n 3, 1) := by decide +kernel
theorem dm_41_310 : decode (kb_ 41) 310 = .ok (.bipush (32), 2) := by decide +kernel
theorem dm_41_312 : decode (kb_ 41) 312 = .ok (.if_icmp .ge (16), 3) := by decide +kernel
theorem dm_41_315 : decode (kb_ 41) 315 = .ok (.aload_n 0, 1) := by decide +kernel
theorem dm_41_316 : decode (kb_ 41) 316 = .ok (.getfield 31, 3) := by decide +kernel
theorem dm_41_319 : decode (kb_ 41) 319 = .ok (.iload_n 3, 1) := by decide +kernel
theorem dm_41_320 : decode (kb_ 41) 320 = .ok (.iconst (-1), 1) := by decide +kernel
theorem dm_41_321 : decode (kb_ 41) 321 = .ok (.iastore, 1) := by decide +kernel
theorem dm_41_322 : decode (kb_ 41) 322 = .ok (.iinc 3 (1), 3) := by decide +kernel
theorem dm_41_325 : decode (kb_ 41) 325 = .ok (.goto (-16), 3) := by decide +kernel
theorem dm_41_328 : decode (kb_ 41) 328 = .ok (.return_, 1) := by decide +kernel
theorem dm_42_0 : decode (kb_ 42) 0 = .ok (.sipush (900), 3) := by decide +kernel
theorem dm_42_3 : decode (kb_ 42) 3 = .ok (.iload_n 1, 1) := by decide +kernel
theorem dm_42_4 : decode (kb_ 42) 4 = .ok (.imul, 1) := by decide +kernel
theorem dm_42_5 : decode (kb_ 42) 5 = .ok (.aload_n 0, 1) := by decide +kernel
theorem dm_42_6 : decode (kb_ 42) 6 = .ok (.getfield 80, 3) := by decide +kernel
theorem dm_42_9 : decode (kb_ 42) 9 = .ok (.iload_n 1, 1) := by decide +kernel
theorem dm_42_10 : decode (kb_ 42) 10 = .ok (.iaload, 1) := by decide +kernel
theorem dm_42_11 : decode (kb_ 42) 11 = .ok (.iadd, 1) := by decide +kernel
theorem dm_42_12 : decode (kb_ 42) 12 = .ok (.istore 6, 2) := by decide +kernel
theorem dm_42_14 : decode (kb_ 42) 14 = .ok (.aload_n 0, 1) := by decide +kernel
theorem dm_42_15 : decode (kb_ 42) 15 = .ok (.getfield 83, 3) := by decide +kernel
theorem dm_42_18 : decode (kb_ 42) 18 = .ok (.iload 6, 2) := by decide +kernel
theorem dm_42_20 : decode (kb_ 42) 20 = .ok (.iload_n 2, 1) := by decide +kernel
theorem dm_42_21 : decode (kb_ 42) 21 = .ok (.iastore, 1) := by decide +kernel
theorem dm_42_22 : decode (kb_ 42) 22 = .ok (.aload_n 0, 1) := by decide +kernel
theorem dm_42_23 : decode (kb_ 42) 23 = .ok (.getfield 86, 3) := by decide +kernel
theorem dm_42_26 : decode (kb_ 42) 26 = .ok (.iload 6, 2) := by decide +kernel
theorem dm_42_28 : decode (kb_ 42) 28 = .ok (.iload_n 3, 1) := by decide +kernel
theorem dm_42_29 : decode (kb_ 42) 29 = .ok (.iastore, 1) := by decide +kernel
theorem dm_42_30 : decode (kb_ 42) 30 = .ok (.aload_n 0, 1) := by decide +kernel
theorem dm_42_31 : decode (kb_ 42) 31 = .ok (.getfield 89, 3) := by decide +kernel
theorem dm_42_34 : decode (kb_ 42) 34 = .ok (.iload 6, 2) := by decide +kernel
theorem dm_42_36 : decode (kb_ 42) 36 = .ok (.iload 4, 2) := by decide +kernel
theorem dm_42_38 : decode (kb_ 42) 38 = .ok (.iastore, 1) := by decide +kernel
theorem dm_42_39 : decode (kb_ 42) 39 = .ok (.aload_n 0, 1) := by decide +kernel
theorem dm_42_40 : decode (kb_ 42) 40 = .ok (.getfield 92, 3) := by decide +kernel
theorem dm_42_43 : decode (kb_ 42) 43 = .ok (.iload 6, 2) := by decide +kernel
theorem dm_42_45 : decode (kb_ 42) 45 = .ok (.iload 5, 2) := by decide +kernel
theorem dm_42_47 : decode (kb_ 42) 47 = .ok (.iastore, 1) := by decide +kernel
theorem dm_42_48 : decode (kb_ 42) 48 = .ok (.aload_n 0, 1) := by decide +kernel
theorem dm_42_49 : decode (kb_ 42) 49 = .ok (.getfield 80, 3) := by decide +kernel
theorem dm_42_52 : decode (kb_ 42) 52 = .ok (.iload_n 1, 1) := by decide +kernel
theorem dm_42_53 : decode (kb_ 42) 53 = .ok (.dup2, 1) := by decide +kernel
theorem dm_42_54 : decode (kb_ 42) 54 = .ok (.iaload, 1) := by decide +kernel
theorem dm_42_55 : decode (kb_ 42) 55 = .ok (.iconst (1), 1) := by decide +kernel
theorem dm_42_56 : decode (kb_ 42) 56 = .ok (.iadd, 1) := by decide +kernel
theorem dm_42_57 : decode (kb_ 42) 57 = .ok (.iastore, 1) := by decide +kernel
theorem dm_42_58 : decode (kb_ 42) 58 = .ok (.return_, 1) := by decide +kernel
theorem dm_43_0 : decode (kb_ 43) 0 = .ok (.iconst (1), 1) := by decide +kernel
theorem dm_43_1 : decode (kb_ 43) 1 = .ok (.istore_n 1, 1) := by decide +kernel
theorem dm_43_2 : decode (kb_ 43) 2 = .ok (.iconst (0), 1) := by decide +kernel
theorem dm_43_3 : decode (kb_ 43) 3 = .ok (.istore_n 2, 1) := by decide +kernel
theorem dm_43_4 : decode (kb_ 43) 4 = .ok (.iload_n 2, 1) := by decide +kernel
theorem dm_43_5 : decode (kb_ 43) 5 = .ok (.iconst (4), 1) := by decide +kernel
theorem dm_43_6 : decode (kb_ 43) 6 = .ok (.if_icmp .ge (46), 3) := by decide +kernel
theorem dm_43_9 : decode (kb_ 43) 9 = .ok (.iload_n 0, 1) := by decide +kernel
theorem dm_43_10 : decode (kb_ 43) 10 = .ok (.bipush (8), 2) := by decide +kernel
theorem dm_43_12 : decode (kb_ 43) 12 = .ok (.iload_n 2, 1) := by decide +kernel
theorem dm_43_13 : decode (kb_ 43) 13 = .ok (.imul, 1) := by decide +kernel
theorem dm_43_14 : decode (kb_ 43) 14 = .ok (.iushr, 1) := by decide +kernel
theorem dm_43_15 : decode (kb_ 43) 15 = .ok (.sipush (255), 3) := by decide +kernel
theorem dm_43_18 : decode (kb_ 43) 18 = .ok (.iand, 1) := by decide +kernel
theorem dm_43_19 : decode (kb_ 43) 19 = .ok (.istore_n 3, 1) := by decide +kernel
theorem dm_43_20 : decode (kb_ 43) 20 = .ok (.iload_n 1, 1) := by decide +kernel
theorem dm_43_21 : decode (kb_ 43) 21 = .ok (.ifCond .eq (23), 3) := by decide +kernel
theorem dm_43_24 : decode (kb_ 43) 24 = .ok (.iload_n 3, 1) := by decide +kernel
theorem dm_43_25 : decode (kb_ 43) 25 = .ok (.ifCond .eq (15), 3) := by decide +kernel
theorem dm_43_28 : decode (kb_ 43) 28 = .ok (.iload_n 3, 1) := by decide +kernel
theorem dm_43_29 : decode (kb_ 43) 29 = .ok (.bipush (32), 2) := by decide +kernel
theorem dm_43_31 : decode (kb_ 43) 31 = .ok (.if_icmp .lt (13), 3) := by decide +kernel
theorem dm_43_34 : decode (kb_ 43) 34 = .ok (.iload_n 3, 1) := by decide +kernel
theorem dm_43_35 : decode (kb_ 43) 35 = .ok (.bipush (126), 2) := by decide +kernel
theorem dm_43_37 : decode (kb_ 43) 37 = .ok (.if_icmp .gt (7), 3) := by decide +kernel
theorem dm_43_40 : decode (kb_ 43) 40 = .ok (.iconst (1), 1) := by decide +kernel
theorem dm_43_41 : decode (kb_ 43) 41 = .ok (.goto (4), 3) := by decide +kernel
theorem dm_43_44 : decode (kb_ 43) 44 = .ok (.iconst (0), 1) := by decide +kernel
theorem dm_43_45 : decode (kb_ 43) 45 = .ok (.istore_n 1, 1) := by decide +kernel
theorem dm_43_46 : decode (kb_ 43) 46 = .ok (.iinc 2 (1), 3) := by decide +kernel
theorem dm_43_49 : decode (kb_ 43) 49 = .ok (.goto (-45), 3) := by decide +kernel
theorem dm_43_52 : decode (kb_ 43) 52 = .ok (.iload_n 1, 1) := by decide +kernel
theorem dm_43_53 : decode (kb_ 43) 53 = .ok (.ireturn, 1) := by decide +kernel
theorem dm_44_0 : decode (kb_ 44) 0 = .ok (.iload_n 0, 1) := by decide +kernel
theorem dm_44_1 : decode (kb_ 44) 1 = .ok (.ifCond .lt (12), 3) := by decide +kernel
theorem dm_44_4 : decode (kb_ 44) 4 = .ok (.iload_n 0, 1) := by decide +kernel
theorem dm_44_5 : decode (kb_ 44) 5 = .ok (.iload_n 1, 1) := by decide +kernel
theorem dm_44_6 : decode (kb_ 44) 6 = .ok (.if_icmp .ge (7), 3) := by decide +kernel
theorem dm_44_9 : decode (kb_ 44) 9 = .ok (.iconst (1), 1) := by decide +kernel
theorem dm_44_10 : decode (kb_ 44) 10 = .ok (.goto (4), 3) := by decide +kernel
theorem dm_44_13 : decode (kb_ 44) 13 = .ok (.iconst (0), 1) := by decide +kernel
theorem dm_44_14 : decode (kb_ 44) 14 = .ok (.ireturn, 1) := by decide +kernel
theorem dm_45_0 : decode (kb_ 45) 0 = .ok (.iload_n 2, 1) := by decide +kernel
theorem dm_45_1 : decode (kb_ 45) 1 = .ok (.istore_n 3, 1) := by decide +kernel
theorem dm_45_2 : decode (kb_ 45) 2 = .ok (.aload_n 0, 1) := by decide +kernel
theorem dm_45_3 : decode (kb_ 45) 3 = .ok (.getfield 16, 3) := by decide +kernel
theorem dm_45_6 : decode (kb_ 45) 6 = .ok (.bipush (32), 2) := by decide +kernel
theorem dm_45_8 : decode (kb_ 45) 8 = .ok (.iload_n 1, 1) := by decide +kernel
theorem dm_45_9 : decode (kb_ 45) 9 = .ok (.imul, 1) := by decide +kernel
theorem dm_45_10 : decode (kb_ 45) 10 = .ok (.iload_n 3, 1) := by decide +kernel
theorem dm_45_11 : decode (kb_ 45) 11 = .ok (.iadd, 1) := by decide +kernel
theorem dm_45_12 : decode (kb_ 45) 12 = .ok (.iaload, 1) := by decide +kernel
theorem dm_45_13 : decode (kb_ 45) 13 = .ok (.bipush (93), 2) := by decide +kernel
theorem dm_45_15 : decode (kb_ 45) 15 = .ok (.if_icmp .eq (9), 3) := by decide +kernel
theorem dm_45_18 : decode (kb_ 45) 18 = .ok (.iinc 3 (1), 3) := by decide +kernel
theorem dm_45_21 : decode (kb_ 45) 21 = .ok (.goto (-19), 3) := by decide +kernel
theorem dm_45_24 : decode (kb_ 45) 24 = .ok (.iload_n 3, 1) := by decide +kernel
theorem dm_45_25 : decode (kb_ 45) 25 = .ok (.ireturn, 1) := by decide +kernel
theorem dm_46_0 : decode (kb_ 46) 0 = .ok (.aload_n 0, 1) := by decide +kernel
theorem dm_46_1 : decode (kb_ 46) 1 = .ok (.iload_n 1, 1) := by decide +kernel
theorem dm_46_2 : decode (kb_ 46) 2 = .ok (.ifCond .ne (7), 3) := by decide +kernel
theorem dm_46_5 : decode (kb_ 46) 5 = .ok (.iconst (1), 1) := by decide +kernel
theorem dm_46_6 : decode (kb_ 46) 6 = .ok (.goto (12), 3) := by decide +kernel
theorem dm_46_9 : decode (kb_ 46) 9 = .ok (.iload_n 2, 1) := by decide +kernel
theorem dm_46_10 : decode (kb_ 46) 10 = .ok (.ifCond .ne (7), 3) := by decide +kernel
theorem dm_46_13 : decode (kb_ 46) 13 = .ok (.iconst (2), 1) := by decide +kernel
theorem dm_46_14 : decode (kb_ 46) 14 = .ok (.goto (4), 3) := by decide +kernel
theorem dm_46_17 : decode (kb_ 46) 17 = .ok (.iconst (0), 1) := by decide +kernel
theorem dm_46_18 : decode (kb_ 46) 18 = .ok (.putfield 107, 3) := by decide +kernel
theorem dm_46_21 : decode (kb_ 46) 21 = .ok (.aload_n 0, 1) := by decide +kernel
theorem dm_46_22 : decode (kb_ 46) 22 = .ok (.getfield 107, 3) := by decide +kernel
theorem dm_46_25 : decode (kb_ 46) 25 = .ok (.ifCond .ne (7), 3) := by decide +kernel
theorem dm_46_28 : decode (kb_ 46) 28 = .ok (.iconst (1), 1) := by decide +kernel
theorem dm_46_29 : decode (kb_ 46) 29 = .ok (.goto (4), 3) := by decide +kernel
theorem dm_46_32 : decode (kb_ 46) 32 = .ok (.iconst (0), 1) := by decide +kernel
theorem dm_46_33 : decode (kb_ 46) 33 = .ok (.ireturn, 1) := by decide +kernel
theorem dm_47_0 : decode (kb_ 47) 0 = .ok (.iconst (0), 1) := by decide +kernel
theorem dm_47_1 : decode (kb_ 47) 1 = .ok (.istore 5, 2) := by decide +kernel
theorem dm_47_3 : decode (kb_ 47) 3 = .ok (.iload_n 3, 1) := by decide +kernel
theorem dm_47_4 : decode (kb_ 47) 4 = .ok (.istore 6, 2) := by decide +kernel
theorem dm_47_6 : decode (kb_ 47) 6 = .ok (.iload 6, 2) := by decide +kernel
theorem dm_47_8 : decode (kb_ 47) 8 = .ok (.iload 4, 2) := by decide +kernel
theorem dm_47_10 : decode (kb_ 47) 10 = .ok (.if_icmp .ge (67), 3) := by decide +kernel
theorem dm_47_13 : decode (kb_ 47) 13 = .ok (.iload 5, 2) := by decide +kernel
theorem dm_47_15 : decode (kb_ 47) 15 = .ok (.ifCond .ne (49), 3) := by decide +kernel
theorem dm_47_18 : decode (kb_ 47) 18 = .ok (.aload_n 0, 1) := by decide +kernel
theorem dm_47_19 : decode (kb_ 47) 19 = .ok (.getfield 16, 3) := by decide +kernel
theorem dm_47_22 : decode (kb_ 47) 22 = .ok (.bipush (32), 2) := by decide +kernel
theorem dm_47_24 : decode (kb_ 47) 24 = .ok (.iload_n 2, 1) := by decide +kernel
theorem dm_47_25 : decode (kb_ 47) 25 = .ok (.imul, 1) := by decide +kernel
theorem dm_47_26 : decode (kb_ 47) 26 = .ok (.iload 6, 2) := by decide +kernel
theorem dm_47_28 : decode (kb_ 47) 28 = .ok (.iadd, 1) := by decide +kernel
theorem dm_47_29 : decode (kb_ 47) 29 = .ok (.iaload, 1) := by decide +kernel
theorem dm_47_30 : decode (kb_ 47) 30 = .ok (.bipush (35), 2) := by decide +kernel
theorem dm_47_32 : decode (kb_ 47) 32 = .ok (.if_icmp .ne (36), 3) := by decide +kernel
theorem dm_47_35 : decode (kb_ 47) 35 = .ok (.aload_n 0, 1) := by decide +kernel
theorem dm_47_36 : decode (kb_ 47) 36 = .ok (.getfield 22, 3) := by decide +kernel
theorem dm_47_39 : decode (kb_ 47) 39 = .ok (.iconst (4), 1) := by decide +kernel
theorem dm_47_40 : decode (kb_ 47) 40 = .ok (.iload_n 1, 1) := by decide +kernel
theorem dm_47_41 : decode (kb_ 47) 41 = .ok (.imul, 1) := by decide +kernel
theorem dm_47_42 : decode (kb_ 47) 42 = .ok (.aload_n 0, 1) := by decide +kernel
theorem dm_47_43 : decode (kb_ 47) 43 = .ok (.getfield 16, 3) := by decide +kernel
theorem dm_47_46 : decode (kb_ 47) 46 = .ok (.bipush (32), 2) := by decide +kernel
theorem dm_47_48 : decode (kb_ 47) 48 = .ok (.iload_n 2, 1) := by decide +kernel
theorem dm_47_49 : decode (kb_ 47) 49 = .ok (.imul, 1) := by decide +kernel
theorem dm_47_50 : decode (kb_ 47) 50 = .ok (.iload 6, 2) := by decide +kernel
theorem dm_47_52 : decode (kb_ 47) 52 = .ok (.iadd, 1) := by decide +kernel
theorem dm_47_53 : decode (kb_ 47) 53 = .ok (.iconst (1), 1) := by decide +kernel
theorem dm_47_54 : decode (kb_ 47) 54 = .ok (.iadd, 1) := by decide +kernel
theorem dm_47_55 : decode (kb_ 47) 55 = .ok (.iaload, 1) := by decide +kernel
theorem dm_47_56 : decode (kb_ 47) 56 = .ok (.iadd, 1) := by decide +kernel
theorem dm_47_57 : decode (kb_ 47) 57 = .ok (.bipush (48), 2) := by decide +kernel
theorem dm_47_59 : decode (kb_ 47) 59 = .ok (.isub, 1) := by decide +kernel
theorem dm_47_60 : decode (kb_ 47) 60 = .ok (.iaload, 1) := by decide +kernel
theorem dm_47_61 : decode (kb_ 47) 61 = .ok (.ifCond .ne (7), 3) := by decide +kernel
theorem dm_47_64 : decode (kb_ 47) 64 = .ok (.iconst (1), 1) := by decide +kernel
theorem dm_47_65 : decode (kb_ 47) 65 = .ok (.goto (4), 3) := by decide +kernel
theorem dm_47_68 : decode (kb_ 47) 68 = .ok (.iconst (0), 1) := by decide +kernel
theorem dm_47_69 : decode (kb_ 47) 69 = .ok (.istore 5, 2) := by decide +kernel
theorem dm_47_71 : decode (kb_ 47) 71 = .ok (.iinc 6 (1), 3) := by decide +kernel
theorem dm_47_74 : decode (kb_ 47) 74 = .ok (.goto (-68), 3) := by decide +kernel
theorem dm_47_77 : decode (kb_ 47) 77 = .ok (.iload 5, 2) := by decide +kernel
theorem dm_47_79 : decode (kb_ 47) 79 = .ok (.ireturn, 1) := by decide +kernel
theorem dm_48_0 : decode (kb_ 48) 0 = .ok (.aload_n 0, 1) := by decide +kernel
theorem dm_48_1 : decode (kb_ 48) 1 = .ok (.getfield 86, 3) := by decide +kernel
theorem dm_48_4 : decode (kb_ 48) 4 = .ok (.iload_n 1, 1) := by decide +kernel
theorem dm_48_5 : decode (kb_ 48) 5 = .ok (.iaload, 1) := by decide +kernel
theorem dm_48_6 : decode (kb_ 48) 6 = .ok (.aload_n 0, 1) := by decide +kernel
theorem dm_48_7 : decode (kb_ 48) 7 = .ok (.getfield 92, 3) := by decide +kernel
theorem dm_48_10 : decode (kb_ 48) 10 = .ok (.iload_n 1, 1) := by decide +kernel
theorem dm_48_11 : decode (kb_ 48) 11 = .ok (.iaload, 1) := by decide +kernel
theorem dm_48_12 : decode (kb_ 48) 12 = .ok (.iadd, 1) := by decide +kernel
theorem dm_48_13 : decode (kb_ 48) 13 = .ok (.ireturn, 1) := by decide +kernel
theorem dm_49_0 : decode (kb_ 49) 0 = .ok (.iload_n 0, 1) := by decide +kernel
theorem dm_49_1 : decode (kb_ 49) 1 = .ok (.bipush (97), 2) := by decide +kernel
theorem dm_49_3 : decode (kb_ 49) 3 = .ok (.if_icmp .lt (13), 3) := by decide +kernel
theorem dm_49_6 : decode (kb_ 49) 6 = .ok (.iload_n 0, 1) := by decide +kernel
theorem dm_49_7 : decode (kb_ 49) 7 = .ok (.bipush (122), 2) := by decide +kernel
theorem dm_49_9 : decode (kb_ 49) 9 = .ok (.if_icmp .gt (7), 3) := by decide +kernel
theorem dm_49_12 : decode (kb_ 49) 12 = .ok (.iconst (1), 1) := by decide +kernel
theorem dm_49_13 : decode (kb_ 49) 13 = .ok (.goto (4), 3) := by decide +kernel
theorem dm_49_16 : decode (kb_ 49) 16 = .ok (.iconst (0), 1) := by decide +kernel
theorem dm_49_17 : decode (kb_ 49) 17 = .ok (.ireturn, 1) := by decide +kernel
theorem dm_50_0 : decode (kb_ 50) 0 = .ok (.aload_n 0, 1) := by decide +kernel
theorem dm_50_1 : decode (kb_ 50) 1 = .ok (.getfield 37, 3) := by decide +kernel
theorem dm_50_4 : decode (kb_ 50) 4 = .ok (.aload_n 0, 1) := by decide +kernel
theorem dm_50_5 : decode (kb_ 50) 5 = .ok (.getfield 152, 3) := by decide +kernel
theorem dm_50_8 : decode (kb_ 50) 8 = .ok (.iload_n 1, 1) := by decide +kernel
theorem dm_50_9 : decode (kb_ 50) 9 = .ok (.iastore, 1) := by decide +kernel
theorem dm_50_10 : decode (kb_ 50) 10 = .ok (.aload_n 0, 1) := by decide +kernel
theorem dm_50_11 : decode (kb_ 50) 11 = .ok (.dup, 1) := by decide +kernel
theorem dm_50_12 : decode (kb_ 50) 12 = .ok (.getfield 152, 3) := by decide +kernel
theorem dm_50_15 : decode (kb_ 50) 15 = .ok (.iconst (1), 1) := by decide +kernel
theorem dm_50_16 : decode (kb_ 50) 16 = .ok (.iadd, 1) := by decide +kernel
theorem dm_50_17 : decode (kb_ 50) 17 = .ok (.putfield 152, 3) := by decide +kernel
theorem dm_50_20 : decode (kb_ 50) 20 = .ok (.return_, 1) := by decide +kernel
theorem dm_51_0 : decode (kb_ 51) 0 = .ok (.iload_n 1, 1) := by decide +kernel
theorem dm_51_1 : decode (kb_ 51) 1 = .ok (.bipush (32), 2) := by decide +kernel
theorem dm_51_3 : decode (kb_ 51) 3 = .ok (.if_icmp .ne (7), 3) := by decide +kernel
theorem dm_51_6 : decode (kb_ 51) 6 = .ok (.iconst (0), 1) := by decide +kernel
theorem dm_51_7 : decode (kb_ 51) 7 = .ok (.goto (10), 3) := by decide +kernel
theorem dm_51_10 : decode (kb_ 51) 10 = .ok (.bipush (27), 2) := by decide +kernel
theorem dm_51_12 : decode (kb_ 51) 12 = .ok (.iload_n 1, 1) := by decide +kernel
theorem dm_51_13 : decode (kb_ 51) 13 = .ok (.iadd, 1) := by decide +kernel
theorem dm_51_14 : decode (kb_ 51) 14 = .ok (.bipush (97), 2) := by decide +kernel
theorem dm_51_16 : decode (kb_ 51) 16 = .ok (.isub, 1) := by decide +kernel
theorem dm_51_17 : decode (kb_ 51) 17 = .ok (.istore_n 2, 1) := by decide +kernel
theorem dm_51_18 : decode (kb_ 51) 18 = .ok (.iconst (0), 1) := by decide +kernel
theorem dm_51_19 : decode (kb_ 51) 19 = .ok (.istore_n 3, 1) := by decide +kernel
theorem dm_51_20 : decode (kb_ 51) 20 = .ok (.iload_n 3, 1) := by decide +kernel
theorem dm_51_21 : decode (kb_ 51) 21 = .ok (.aload_n 0, 1) := by decide +kernel
theorem dm_51_22 : decode (kb_ 51) 22 = .ok (.getfield 149, 3) := by decide +kernel
theorem dm_51_25 : decode (kb_ 51) 25 = .ok (.if_icmp .ge (27), 3) := by decide +kernel
theorem dm_51_28 : decode (kb_ 51) 28 = .ok (.aload_n 0, 1) := by decide +kernel
theorem dm_51_29 : decode (kb_ 51) 29 = .ok (.getfield 34, 3) := by decide +kernel
theorem dm_51_32 : decode (kb_ 51) 32 = .ok (.iload_n 3, 1) := by decide +kernel
theorem dm_51_33 : decode (kb_ 51) 33 = .ok (.iaload, 1) := by decide +kernel
theorem dm_51_34 : decode (kb_ 51) 34 = .ok (.iload_n 1, 1) := by decide +kernel
theorem dm_51_35 : decode (kb_ 51) 35 = .ok (.if_icmp .ne (9), 3) := by decide +kernel
theorem dm_51_38 : decode (kb_ 51) 38 = .ok (.iconst (1), 1) := by decide +kernel
theorem dm_51_39 : decode (kb_ 51) 39 = .ok (.iload_n 3, 1) := by decide +kernel
theorem dm_51_40 : decode (kb_ 51) 40 = .ok (.iadd, 1) := by decide +kernel
theorem dm_51_41 : decode (kb_ 51) 41 = .ok (.goto (4), 3) := by decide +kernel
theorem dm_51_44 : decode (kb_ 51) 44 = .ok (.iload_n 2, 1) := by decide +kernel
theorem dm_51_45 : decode (kb_ 51) 45 = .ok (.istore_n 2, 1) := by decide +kernel
theorem dm_51_46 : decode (kb_ 51) 46 = .ok (.iinc 3 (1), 3) := by decide +kernel
theorem dm_51_49 : decode (kb_ 51) 49 = .ok (.goto (-29), 3) := by decide +kernel
theorem dm_51_52 : decode (kb_ 51) 52 = .ok (.iload_n 2, 1) := by decide +kernel
theorem dm_51_53 : decode (kb_ 51) 53 = .ok (.ireturn, 1) := by decide +kernel
theorem dm_52_0 : decode (kb_ 52) 0 = .ok (.iconst (1), 1) := by decide +kernel
theorem dm_52_1 : decode (kb_ 52) 1 = .ok (.istore_n 2, 1) := by decide +kernel
theorem dm_52_2 : decode (kb_ 52) 2 = .ok (.iconst (0), 1) := by decide +kernel
theorem dm_52_3 : decode (kb_ 52) 3 = .ok (.istore_n 3, 1) := by decide +kernel
theorem dm_52_4 : decode (kb_ 52) 4 = .ok (.iload_n 3, 1) := by decide +kernel
theorem dm_52_5 : decode (kb_ 52) 5 = .ok (.bipush (8), 2) := by decide +kernel
theorem dm_52_7 : decode (kb_ 52) 7 = .ok (.if_icmp .ge (70), 3) := by decide +kernel
theorem dm_52_10 : decode (kb_ 52) 10 = .ok (.aload_n 0, 1) := by decide +kernel
theorem dm_52_11 : decode (kb_ 52) 11 = .ok (.getfield 62, 3) := by decide +kernel
theorem dm_52_14 : decode (kb_ 52) 14 = .ok (.bipush (8), 2) := by decide +kernel
theorem dm_52_16 : decode (kb_ 52) 16 = .ok (.iload_n 1, 1) := by decide +kernel
theorem dm_52_17 : decode (kb_ 52) 17 = .ok (.imul, 1) := by decide +kernel
theorem dm_52_18 : decode (kb_ 52) 18 = .ok (.iload_n 3, 1) := by decide +kernel
theorem dm_52_19 : decode (kb_ 52) 19 = .ok (.iadd, 1) := by decide +kernel
theorem dm_52_20 : decode (kb_ 52) 20 = .ok (.iaload, 1) := by decide +kernel
theorem dm_52_21 : decode (kb_ 52) 21 = .ok (.iconst (-1), 1) := by decide +kernel
theorem dm_52_22 : decode (kb_ 52) 22 = .ok (.if_icmp .ne (7), 3) := by decide +kernel
theorem dm_52_25 : decode (kb_ 52) 25 = .ok (.iconst (0), 1) := by decide +kernel
theorem dm_52_26 : decode (kb_ 52) 26 = .ok (.goto (14), 3) := by decide +kernel
theorem dm_52_29 : decode (kb_ 52) 29 = .ok (.aload_n 0, 1) := by decide +kernel
theorem dm_52_30 : decode (kb_ 52) 30 = .ok (.getfield 62, 3) := by decide +kernel
theorem dm_52_33 : decode (kb_ 52) 33 = .ok (.bipush (8), 2) := by decide +kernel
theorem dm_52_35 : decode (kb_ 52) 35 = .ok (.iload_n 1, 1) := by decide +kernel
theorem dm_52_36 : decode (kb_ 52) 36 = .ok (.imul, 1) := by decide +kernel
theorem dm_52_37 : decode (kb_ 52) 37 = .ok (.iload_n 3, 1) := by decide +kernel
theorem dm_52_38 : decode (kb_ 52) 38 = .ok (.iadd, 1) := by decide +kernel
theorem dm_52_39 : decode (kb_ 52) 39 = .ok (.iaload, 1) := by decide +kernel
theorem dm_52_40 : decode (kb_ 52) 40 = .ok (.istore 4, 2) := by decide +kernel
theorem dm_52_42 : decode (kb_ 52) 42 = .ok (.iload_n 2, 1) := by decide +kernel
theorem dm_52_43 : decode (kb_ 52) 43 = .ok (.ifCond .eq (18), 3) := by decide +kernel
theorem dm_52_46 : decode (kb_ 52) 46 = .ok (.iload 4, 2) := by decide +kernel
theorem dm_52_48 : decode (kb_ 52) 48 = .ok (.aload_n 0, 1) := by decide +kernel
theorem dm_52_49 : decode (kb_ 52) 49 = .ok (.getfield 65, 3) := by decide +kernel
theorem dm_52_52 : decode (kb_ 52) 52 = .ok (.iload_n 3, 1) := by decide +kernel
theorem dm_52_53 : decode (kb_ 52) 53 = .ok (.iaload, 1) := by decide +kernel
theorem dm_52_54 : decode (kb_ 52) 54 = .ok (.if_icmp .ne (7), 3) := by decide +kernel
theorem dm_52_57 : decode (kb_ 52) 57 = .ok (.iconst (1), 1) := by decide +kernel
theorem dm_52_58 : decode (kb_ 52) 58 = .ok (.goto (4), 3) := by decide +kernel
theorem dm_52_61 : decode (kb_ 52) 61 = .ok (.iconst (0), 1) := by decide +kernel
theorem dm_52_62 : decode (kb_ 52) 62 = .ok (.istore_n 2, 1) := by decide +kernel
theorem dm_52_63 : decode (kb_ 52) 63 = .ok (.aload_n 0, 1) := by decide +kernel
theorem dm_52_64 : decode (kb_ 52) 64 = .ok (.getfield 65, 3) := by decide +kernel
theorem dm_52_67 : decode (kb_ 52) 67 = .ok (.iload_n 3, 1) := by decide +kernel
theorem dm_52_68 : decode (kb_ 52) 68 = .ok (.iload 4, 2) := by decide +kernel
theorem dm_52_70 : decode (kb_ 52) 70 = .ok (.iastore, 1) := by decide +kernel
theorem dm_52_71 : decode (kb_ 52) 71 = .ok (.iinc 3 (1), 3) := by decide +kernel
theorem dm_52_74 : decode (kb_ 52) 74 = .ok (.goto (-70), 3) := by decide +kernel
theorem dm_52_77 : decode (kb_ 52) 77 = .ok (.iload_n 2, 1) := by decide +kernel
theorem dm_52_78 : decode (kb_ 52) 78 = .ok (.ireturn, 1) := by decide +kernel
theorem dm_53_0 : decode (kb_ 53) 0 = .ok (.iconst (0), 1) := by decide +kernel
theorem dm_53_1 : decode (kb_ 53) 1 = .ok (.istore_n 1, 1) := by decide +kernel
theorem dm_53_2 : decode (kb_ 53) 2 = .ok (.iconst (0), 1) := by decide +kernel
theorem dm_53_3 : decode (kb_ 53) 3 = .ok (.istore_n 2, 1) := by decide +kernel
theorem dm_53_4 : decode (kb_ 53) 4 = .ok (.iload_n 2, 1) := by decide +kernel
theorem dm_53_5 : decode (kb_ 53) 5 = .ok (.iconst (4), 1) := by decide +kernel
theorem dm_53_6 : decode (kb_ 53) 6 = .ok (.if_icmp .ge (30), 3) := by decide +kernel
theorem dm_53_9 : decode (kb_ 53) 9 = .ok (.iload_n 0, 1) := by decide +kernel
theorem dm_53_10 : decode (kb_ 53) 10 = .ok (.bipush (8), 2) := by decide +kernel
theorem dm_53_12 : decode (kb_ 53) 12 = .ok (.iload_n 2, 1) := by decide +kernel
theorem dm_53_13 : decode (kb_ 53) 13 = .ok (.imul, 1) := by decide +kernel
theorem dm_53_14 : decode (kb_ 53) 14 = .ok (.iushr, 1) := by decide +kernel
theorem dm_53_15 : decode (kb_ 53) 15 = .ok (.sipush (255), 3) := by decide +kernel
theorem dm_53_18 : decode (kb_ 53) 18 = .ok (.iand, 1) := by decide +kernel
theorem dm_53_19 : decode (kb_ 53) 19 = .ok (.ifCond .ne (7), 3) := by decide +kernel
theorem dm_53_22 : decode (kb_ 53) 22 = .ok (.iload_n 1, 1) := by decide +kernel
theorem dm_53_23 : decode (kb_ 53) 23 = .ok (.goto (6), 3) := by decide +kernel
theorem dm_53_26 : decode (kb_ 53) 26 = .ok (.iload_n 1, 1) := by decide +kernel
theorem dm_53_27 : decode (kb_ 53) 27 = .ok (.iconst (1), 1) := by decide +kernel
theorem dm_53_28 : decode (kb_ 53) 28 = .ok (.iadd, 1) := by decide +kernel
theorem dm_53_29 : decode (kb_ 53) 29 = .ok (.istore_n 1, 1) := by decide +kernel
theorem dm_53_30 : decode (kb_ 53) 30 = .ok (.iinc 2 (1), 3) := by decide +kernel
theorem dm_53_33 : decode (kb_ 53) 33 = .ok (.goto (-29), 3) := by decide +kernel
theorem dm_53_36 : decode (kb_ 53) 36 = .ok (.iload_n 1, 1) := by decide +kernel
theorem dm_53_37 : decode (kb_ 53) 37 = .ok (.ireturn, 1) := by decide +kernel
theorem dm_54_0 : decode (kb_ 54) 0 = .ok (.aload_n 0, 1) := by decide +kernel
theorem dm_54_1 : decode (kb_ 54) 1 = .ok (.getfield 46, 3) := by decide +kernel
theorem dm_54_4 : decode (kb_ 54) 4 = .ok (.iload_n 1, 1) := by decide +kernel
theorem dm_54_5 : decode (kb_ 54) 5 = .ok (.iconst (-1), 1) := by decide +kernel
theorem dm_54_6 : decode (kb_ 54) 6 = .ok (.iastore, 1) := by decide +kernel
theorem dm_54_7 : decode (kb_ 54) 7 = .ok (.iconst (1), 1) := by decide +kernel
theorem dm_54_8 : decode (kb_ 54) 8 = .ok (.istore_n 2, 1) := by decide +kernel
theorem dm_54_9 : decode (kb_ 54) 9 = .ok (.iload_n 1, 1) := by decide +kernel
theorem dm_54_10 : decode (kb_ 54) 10 = .ok (.iload_n 2, 1) := by decide +kernel
theorem dm_54_11 : decode (kb_ 54) 11 = .ok (.iadd, 1) := by decide +kernel
theorem dm_54_12 : decode (kb_ 54) 12 = .ok (.aload_n 0, 1) := by decide +kernel
theorem dm_54_13 : decode (kb_ 54) 13 = .ok (.getfield 172, 3) := by decide +kernel
theorem dm_54_16 : decode (kb_ 54) 16 = .ok (.if_icmp .gt (129), 3) := by decide +kernel
theorem dm_54_19 : decode (kb_ 54) 19 = .ok (.aload_n 0, 1) := by decide +kernel
theorem dm_54_20 : decode (kb_ 54) 20 = .ok (.getfield 101, 3) := by decide +kernel
theorem dm_54_23 : decode (kb_ 54) 23 = .ok (.aload_n 0, 1) := by decide +kernel
theorem dm_54_24 : decode (kb_ 54) 24 = .ok (.getfield 43, 3) := by decide +kernel
theorem dm_54_27 : decode (kb_ 54) 27 = .ok (.iload_n 1, 1) := by decide +kernel
theorem dm_54_28 : decode (kb_ 54) 28 = .ok (.iload_n 2, 1) := by decide +kernel
theorem dm_54_29 : decode (kb_ 54) 29 = .ok (.iadd, 1) := by decide +kernel
theorem dm_54_30 : decode (kb_ 54) 30 = .ok (.iconst (1), 1) := by decide +kernel
theorem dm_54_31 : decode (kb_ 54) 31 = .ok (.isub, 1) := by decide +kernel
theorem dm_54_32 : decode (kb_ 54) 32 = .ok (.iaload, 1) := by decide +kernel
theorem dm_54_33 : decode (kb_ 54) 33 = .ok (.aload_n 0, 1) := by decide +kernel
theorem dm_54_34 : decode (kb_ 54) 34 = .ok (.getfield 40, 3) := by decide +kernel
theorem dm_54_37 : decode (kb_ 54) 37 = .ok (.iload_n 1, 1) := by decide +kernel
theorem dm_54_38 : decode (kb_ 54) 38 = .ok (.iaload, 1) := by decide +kernel
theorem dm_54_39 : decode (kb_ 54) 39 = .ok (.isub, 1) := by decide +kernel
theorem dm_54_40 : decode (kb_ 54) 40 = .ok (.isub, 1) := by decide +kernel
theorem dm_54_41 : decode (kb_ 54) 41 = .ok (.istore_n 3, 1) := by decide +kernel
theorem dm_54_42 : decode (kb_ 54) 42 = .ok (.iload_n 1, 1) := by decide +kernel
theorem dm_54_43 : decode (kb_ 54) 43 = .ok (.iload_n 2, 1) := by decide +kernel
theorem dm_54_44 : decode (kb_ 54) 44 = .ok (.iadd, 1) := by decide +kernel
theorem dm_54_45 : decode (kb_ 54) 45 = .ok (.aload_n 0, 1) := by decide +kernel
theorem dm_54_46 : decode (kb_ 54) 46 = .ok (.getfield 172, 3) := by decide +kernel
theorem dm_54_49 : decode (kb_ 54) 49 = .ok (.if_icmp .ne (7), 3) := by decide +kernel
theorem dm_54_52 : decode (kb_ 54) 52 = .ok (.iconst (1), 1) := by decide +kernel
theorem dm_54_53 : decode (kb_ 54) 53 = .ok (.goto (4), 3) := by decide +kernel
theorem dm_54_56 : decode (kb_ 54) 56 = .ok (.iconst (0), 1) := by decide +kernel
theorem dm_54_57 : decode (kb_ 54) 57 = .ok (.istore 4, 2) := by decide +kernel
theorem dm_54_59 : decode (kb_ 54) 59 = .ok (.iload 4, 2) := by decide +kernel
theorem dm_54_61 : decode (kb_ 54) 61 = .ok (.ifCond .eq (7), 3) := by decide +kernel
theorem dm_54_64 : decode (kb_ 54) 64 = .ok (.iconst (0), 1) := by decide +kernel
theorem dm_54_65 : decode (kb_ 54) 65 = .ok (.goto (15), 3) := by decide +kernel
theorem dm_54_68 : decode (kb_ 54) 68 = .ok (.iload_n 3, 1) := by decide +kernel
theorem dm_54_69 : decode (kb_ 54) 69 = .ok (.iload_n 3, 1) := by decide +kernel
theorem dm_54_70 : decode (kb_ 54) 70 = .ok (.imul, 1) := by decide +kernel
theorem dm_54_71 : decode (kb_ 54) 71 = .ok (.aload_n 0, 1) := by decide +kernel
theorem dm_54_72 : decode (kb_ 54) 72 = .ok (.getfield 46, 3) := by decide +kernel
theorem dm_54_75 : decode (kb_ 54) 75 = .ok (.iload_n 1, 1) := by decide +kernel
theorem dm_54_76 : decode (kb_ 54) 76 = .ok (.iload_n 2, 1) := by decide +kernel
theorem dm_54_77 : decode (kb_ 54) 77 = .ok (.iadd, 1) := by decide +kernel
theorem dm_54_78 : decode (kb_ 54) 78 = .ok (.iaload, 1) := by decide +kernel
theorem dm_54_79 : decode (kb_ 54) 79 = .ok (.iadd, 1) := by decide +kernel
theorem dm_54_80 : decode (kb_ 54) 80 = .ok (.istore 5, 2) := by decide +kernel
theorem dm_54_82 : decode (kb_ 54) 82 = .ok (.iload_n 3, 1) := by decide +kernel
theorem dm_54_83 : decode (kb_ 54) 83 = .ok (.ifCond .lt (56), 3) := by decide +kernel
theorem dm_54_86 : decode (kb_ 54) 86 = .ok (.iload 4, 2) := by decide +kernel
theorem dm_54_88 : decode (kb_ 54) 88 = .ok (.ifCond .ne (15), 3) := by decide +kernel
theorem dm_54_91 : decode (kb_ 54) 91 = .ok (.aload_n 0, 1) := by decide +kernel
theorem dm_54_92 : decode (kb_ 54) 92 = .ok (.getfield 46, 3) := by decide +kernel
theorem dm_54_95 : decode (kb_ 54) 95 = .ok (.iload_n 1, 1) := by decide +kernel
theorem dm_54_96 : decode (kb_ 54) 96 = .ok (.iload_n 2, 1) := by decide +kernel
theorem dm_54_97 : decode (kb_ 54) 97 = .ok (.iadd, 1) := by decide +kernel
theorem dm_54_98 : decode (kb_ 54) 98 = .ok (.iaload, 1) := by decide +kernel
theorem dm_54_99 : decode (kb_ 54) 99 = .ok (.iconst (-1), 1) := by decide +kernel
theorem dm_54_100 : decode (kb_ 54) 100 = .ok (.if_icmp .eq (39), 3) := by decide +kernel
theorem dm_54_103 : decode (kb_ 54) 103 = .ok (.aload_n 0, 1) := by decide +kernel
theorem dm_54_104 : decode (kb_ 54) 104 = .ok (.getfield 46, 3) := by decide +kernel
theorem dm_54_107 : decode (kb_ 54) 107 = .ok (.iload_n 1, 1) := by decide +kernel
theorem dm_54_108 : decode (kb_ 54) 108 = .ok (.iaload, 1) := by decide +kernel
theorem dm_54_109 : decode (kb_ 54) 109 = .ok (.iconst (-1), 1) := by decide +kernel
theorem dm_54_110 : decode (kb_ 54) 110 = .ok (.if_icmp .eq (14), 3) := by decide +kernel
theorem dm_54_113 : decode (kb_ 54) 113 = .ok (.iload 5, 2) := by decide +kernel
theorem dm_54_115 : decode (kb_ 54) 115 = .ok (.aload_n 0, 1) := by decide +kernel
theorem dm_54_116 : decode (kb_ 54) 116 = .ok (.getfield 46, 3) := by decide +kernel
theorem dm_54_119 : decode (kb_ 54) 119 = .ok (.iload_n 1, 1) := by decide +kernel
theorem dm_54_120 : decode (kb_ 54) 120 = .ok (.iaload, 1) := by decide +kernel
theorem dm_54_121 : decode (kb_ 54) 121 = .ok (.if_icmp .ge (18), 3) := by decide +kernel
theorem dm_54_124 : decode (kb_ 54) 124 = .ok (.aload_n 0, 1) := by decide +kernel
theorem dm_54_125 : decode (kb_ 54) 125 = .ok (.getfield 46, 3) := by decide +kernel
theorem dm_54_128 : decode (kb_ 54) 128 = .ok (.iload_n 1, 1) := by decide +kernel
theorem dm_54_129 : decode (kb_ 54) 129 = .ok (.iload 5, 2) := by decide +kernel
theorem dm_54_131 : decode (kb_ 54) 131 = .ok (.iastore, 1) := by decide +kernel
theorem dm_54_132 : decode (kb_ 54) 132 = .ok (.aload_n 0, 1) := by decide +kernel
theorem dm_54_133 : decode (kb_ 54) 133 = .ok (.getfield 49, 3) := by decide +kernel
theorem dm_54_136 : decode (kb_ 54) 136 = .ok (.iload_n 1, 1) := by decide +kernel
theorem dm_54_137 : decode (kb_ 54) 137 = .ok (.iload_n 2, 1) := by decide +kernel
theorem dm_54_138 : decode (kb_ 54) 138 = .ok (.iastore, 1) := by decide +kernel
theorem dm_54_139 : decode (kb_ 54) 139 = .ok (.iinc 2 (1), 3) := by decide +kernel
theorem dm_54_142 : decode (kb_ 54) 142 = .ok (.goto (-133), 3) := by decide +kernel
theorem dm_54_145 : decode (kb_ 54) 145 = .ok (.return_, 1) := by decide +kernel
theorem dm_55_0 : decode (kb_ 55) 0 = .ok (.iconst (0), 1) := by decide +kernel
theorem dm_55_1 : decode (kb_ 55) 1 = .ok (.istore_n 2, 1) := by decide +kernel
theorem dm_55_2 : decode (kb_ 55) 2 = .ok (.iload_n 2, 1) := by decide +kernel
theorem dm_55_3 : decode (kb_ 55) 3 = .ok (.iconst (4), 1) := by decide +kernel
theorem dm_55_4 : decode (kb_ 55) 4 = .ok (.if_icmp .ge (51), 3) := by decide +kernel
theorem dm_55_7 : decode (kb_ 55) 7 = .ok (.iload_n 1, 1) := by decide +kernel
theorem dm_55_8 : decode (kb_ 55) 8 = .ok (.bipush (8), 2) := by decide +kernel
theorem dm_55_10 : decode (kb_ 55) 10 = .ok (.iload_n 2, 1) := by decide +kernel
theorem dm_55_11 : decode (kb_ 55) 11 = .ok (.imul, 1) := by decide +kernel
theorem dm_55_12 : decode (kb_ 55) 12 = .ok (.iushr, 1) := by decide +kernel
theorem dm_55_13 : decode (kb_ 55) 13 = .ok (.sipush (255), 3) := by decide +kernel
theorem dm_55_16 : decode (kb_ 55) 16 = .ok (.iand, 1) := by decide +kernel
theorem dm_55_17 : decode (kb_ 55) 17 = .ok (.ifCond .eq (32), 3) := by decide +kernel
theorem dm_55_20 : decode (kb_ 55) 20 = .ok (.aload_n 0, 1) := by decide +kernel
theorem dm_55_21 : decode (kb_ 55) 21 = .ok (.getfield 7, 3) := by decide +kernel
theorem dm_55_24 : decode (kb_ 55) 24 = .ok (.aload_n 0, 1) := by decide +kernel
theorem dm_55_25 : decode (kb_ 55) 25 = .ok (.getfield 117, 3) := by decide +kernel
theorem dm_55_28 : decode (kb_ 55) 28 = .ok (.iload_n 1, 1) := by decide +kernel
theorem dm_55_29 : decode (kb_ 55) 29 = .ok (.bipush (8), 2) := by decide +kernel
theorem dm_55_31 : decode (kb_ 55) 31 = .ok (.iload_n 2, 1) := by decide +kernel
theorem dm_55_32 : decode (kb_ 55) 32 = .ok (.imul, 1) := by decide +kernel
theorem dm_55_33 : decode (kb_ 55) 33 = .ok (.iushr, 1) := by decide +kernel
theorem dm_55_34 : decode (kb_ 55) 34 = .ok (.sipush (255), 3) := by decide +kernel
theorem dm_55_37 : decode (kb_ 55) 37 = .ok (.iand, 1) := by decide +kernel
theorem dm_55_38 : decode (kb_ 55) 38 = .ok (.iastore, 1) := by decide +kernel
theorem dm_55_39 : decode (kb_ 55) 39 = .ok (.aload_n 0, 1) := by decide +kernel
theorem dm_55_40 : decode (kb_ 55) 40 = .ok (.dup, 1) := by decide +kernel
theorem dm_55_41 : decode (kb_ 55) 41 = .ok (.getfield 117, 3) := by decide +kernel
theorem dm_55_44 : decode (kb_ 55) 44 = .ok (.iconst (1), 1) := by decide +kernel
theorem dm_55_45 : decode (kb_ 55) 45 = .ok (.iadd, 1) := by decide +kernel
theorem dm_55_46 : decode (kb_ 55) 46 = .ok (.putfield 117, 3) := by decide +kernel
theorem dm_55_49 : decode (kb_ 55) 49 = .ok (.iinc 2 (1), 3) := by decide +kernel
theorem dm_55_52 : decode (kb_ 55) 52 = .ok (.goto (-50), 3) := by decide +kernel
theorem dm_55_55 : decode (kb_ 55) 55 = .ok (.return_, 1) := by decide +kernel
theorem dm_56_0 : decode (kb_ 56) 0 = .ok (.aload_n 0, 1) := by decide +kernel
theorem dm_56_1 : decode (kb_ 56) 1 = .ok (.getfield 107, 3) := by decide +kernel
theorem dm_56_4 : decode (kb_ 56) 4 = .ok (.ireturn, 1) := by decide +kernel
theorem dm_57_0 : decode (kb_ 57) 0 = .ok (.iload_n 1, 1) := by decide +kernel
theorem dm_57_1 : decode (kb_ 57) 1 = .ok (.ifCond .lt (8), 3) := by decide +kernel
theorem dm_57_4 : decode (kb_ 57) 4 = .ok (.iload_n 1, 1) := by decide +kernel
theorem dm_57_5 : decode (kb_ 57) 5 = .ok (.iconst (4), 1) := by decide +kernel
theorem dm_57_6 : decode (kb_ 57) 6 = .ok (.if_icmp .le (13), 3) := by decide +kernel
theorem dm_57_9 : decode (kb_ 57) 9 = .ok (.new 106, 3) := by decide +kernel
theorem dm_57_12 : decode (kb_ 57) 12 = .ok (.dup, 1) := by decide +kernel
theorem dm_57_13 : decode (kb_ 57) 13 = .ok (.ldc 171, 2) := by decide +kernel
theorem dm_57_15 : decode (kb_ 57) 15 = .ok (.invokespecial 110, 3) := by decide +kernel
theorem dm_57_18 : decode (kb_ 57) 18 = .ok (.athrow, 1) := by decide +kernel
theorem dm_57_19 : decode (kb_ 57) 19 = .ok (.aload_n 0, 1) := by decide +kernel
theorem dm_57_20 : decode (kb_ 57) 20 = .ok (.getfield 164, 3) := by decide +kernel
theorem dm_57_23 : decode (kb_ 57) 23 = .ok (.ifCond .ne (13), 3) := by decide +kernel
theorem dm_57_26 : decode (kb_ 57) 26 = .ok (.new 72, 3) := by decide +kernel
theorem dm_57_29 : decode (kb_ 57) 29 = .ok (.dup, 1) := by decide +kernel
theorem dm_57_30 : decode (kb_ 57) 30 = .ok (.ldc 173, 2) := by decide +kernel
theorem dm_57_32 : decode (kb_ 57) 32 = .ok (.invokespecial 76, 3) := by decide +kernel
theorem dm_57_35 : decode (kb_ 57) 35 = .ok (.athrow, 1) := by decide +kernel
theorem dm_57_36 : decode (kb_ 57) 36 = .ok (.aload_n 0, 1) := by decide +kernel
theorem dm_57_37 : decode (kb_ 57) 37 = .ok (.getfield 57, 3) := by decide +kernel
theorem dm_57_40 : decode (kb_ 57) 40 = .ok (.iload_n 1, 1) := by decide +kernel
theorem dm_57_41 : decode (kb_ 57) 41 = .ok (.invokevirtual 175, 3) := by decide +kernel
theorem dm_57_44 : decode (kb_ 57) 44 = .ok (.ireturn, 1) := by decide +kernel
theorem dm_58_0 : decode (kb_ 58) 0 = .ok (.iconst (0), 1) := by decide +kernel
theorem dm_58_1 : decode (kb_ 58) 1 = .ok (.istore_n 2, 1) := by decide +kernel
theorem dm_58_2 : decode (kb_ 58) 2 = .ok (.iload_n 2, 1) := by decide +kernel
theorem dm_58_3 : decode (kb_ 58) 3 = .ok (.iconst (4), 1) := by decide +kernel
theorem dm_58_4 : decode (kb_ 58) 4 = .ok (.if_icmp .ge (27), 3) := by decide +kernel
theorem dm_58_7 : decode (kb_ 58) 7 = .ok (.iload_n 1, 1) := by decide +kernel
theorem dm_58_8 : decode (kb_ 58) 8 = .ok (.iload_n 2, 1) := by decide +kernel
theorem dm_58_9 : decode (kb_ 58) 9 = .ok (.invokestatic 224, 3) := by decide +kernel
theorem dm_58_12 : decode (kb_ 58) 12 = .ok (.istore_n 3, 1) := by decide +kernel
theorem dm_58_13 : decode (kb_ 58) 13 = .ok (.iload_n 3, 1) := by decide +kernel
theorem dm_58_14 : decode (kb_ 58) 14 = .ok (.ifCond .eq (11), 3) := by decide +kernel
theorem dm_58_17 : decode (kb_ 58) 17 = .ok (.aload_n 0, 1) := by decide +kernel
theorem dm_58_18 : decode (kb_ 58) 18 = .ok (.getfield 27, 3) := by decide +kernel
theorem dm_58_21 : decode (kb_ 58) 21 = .ok (.iload_n 3, 1) := by decide +kernel
theorem dm_58_22 : decode (kb_ 58) 22 = .ok (.invokevirtual 227, 3) := by decide +kernel
theorem dm_58_25 : decode (kb_ 58) 25 = .ok (.iinc 2 (1), 3) := by decide +kernel
theorem dm_58_28 : decode (kb_ 58) 28 = .ok (.goto (-26), 3) := by decide +kernel
theorem dm_58_31 : decode (kb_ 58) 31 = .ok (.return_, 1) := by decide +kernel
theorem dm_59_0 : decode (kb_ 59) 0 = .ok (.aload_n 0, 1) := by decide +kernel
theorem dm_59_1 : decode (kb_ 59) 1 = .ok (.iload_n 1, 1) := by decide +kernel
theorem dm_59_2 : decode (kb_ 59) 2 = .ok (.invokevirtual 120, 3) := by decide +kernel
theorem dm_59_5 : decode (kb_ 59) 5 = .ok (.ifCond .eq (12), 3) := by decide +kernel
theorem dm_59_8 : decode (kb_ 59) 8 = .ok (.iload_n 2, 1) := by decide +kernel
theorem dm_59_9 : decode (kb_ 59) 9 = .ok (.ifCond .lt (8), 3) := by decide +kernel
theorem dm_59_12 : decode (kb_ 59) 12 = .ok (.iload_n 2, 1) := by decide +kernel
theorem dm_59_13 : decode (kb_ 59) 13 = .ok (.iconst (4), 1) := by decide +kernel
theorem dm_59_14 : decode (kb_ 59) 14 = .ok (.if_icmp .lt (13), 3) := by decide +kernel
theorem dm_59_17 : decode (kb_ 59) 17 = .ok (.new 106, 3) := by decide +kernel
theorem dm_59_20 : decode (kb_ 59) 20 = .ok (.dup, 1) := by decide +kernel
theorem dm_59_21 : decode (kb_ 59) 21 = .ok (.ldc 138, 2) := by decide +kernel
theorem dm_59_23 : decode (kb_ 59) 23 = .ok (.invokespecial 110, 3) := by decide +kernel
theorem dm_59_26 : decode (kb_ 59) 26 = .ok (.athrow, 1) := by decide +kernel
theorem dm_59_27 : decode (kb_ 59) 27 = .ok (.iload_n 3, 1) := by decide +kernel
theorem dm_59_28 : decode (kb_ 59) 28 = .ok (.iconst (-1), 1) := by decide +kernel
theorem dm_59_29 : decode (kb_ 59) 29 = .ok (.if_icmp .eq (22), 3) := by decide +kernel
theorem dm_59_32 : decode (kb_ 59) 32 = .ok (.iload_n 3, 1) := by decide +kernel
theorem dm_59_33 : decode (kb_ 59) 33 = .ok (.ifCond .eq (18), 3) := by decide +kernel
theorem dm_59_36 : decode (kb_ 59) 36 = .ok (.iload_n 3, 1) := by decide +kernel
theorem dm_59_37 : decode (kb_ 59) 37 = .ok (.iconst (1), 1) := by decide +kernel
theorem dm_59_38 : decode (kb_ 59) 38 = .ok (.if_icmp .eq (13), 3) := by decide +kernel
theorem dm_59_41 : decode (kb_ 59) 41 = .ok (.new 83, 3) := by decide +kernel
theorem dm_59_44 : decode (kb_ 59) 44 = .ok (.dup, 1) := by decide +kernel
theorem dm_59_45 : decode (kb_ 59) 45 = .ok (.ldc 140, 2) := by decide +kernel
theorem dm_59_47 : decode (kb_ 59) 47 = .ok (.invokespecial 87, 3) := by decide +kernel
theorem dm_59_50 : decode (kb_ 59) 50 = .ok (.athrow, 1) := by decide +kernel
theorem dm_59_51 : decode (kb_ 59) 51 = .ok (.aload_n 0, 1) := by decide +kernel
theorem dm_59_52 : decode (kb_ 59) 52 = .ok (.getfield 40, 3) := by decide +kernel
theorem dm_59_55 : decode (kb_ 59) 55 = .ok (.iload_n 1, 1) := by decide +kernel
theorem dm_59_56 : decode (kb_ 59) 56 = .ok (.aaload, 1) := by decide +kernel
theorem dm_59_57 : decode (kb_ 59) 57 = .ok (.iload_n 2, 1) := by decide +kernel
theorem dm_59_58 : decode (kb_ 59) 58 = .ok (.iload_n 3, 1) := by decide +kernel
theorem dm_59_59 : decode (kb_ 59) 59 = .ok (.invokevirtual 142, 3) := by decide +kernel
theorem dm_59_62 : decode (kb_ 59) 62 = .ok (.ireturn, 1) := by decide +kernel
theorem dm_60_0 : decode (kb_ 60) 0 = .ok (.iload_n 1, 1) := by decide +kernel
theorem dm_60_1 : decode (kb_ 60) 1 = .ok (.ifCond .lt (8), 3) := by decide +kernel
theorem dm_60_4 : decode (kb_ 60) 4 = .ok (.iload_n 1, 1) := by decide +kernel
theorem dm_60_5 : decode (kb_ 60) 5 = .ok (.iconst (2), 1) := by decide +kernel
theorem dm_60_6 : decode (kb_ 60) 6 = .ok (.if_icmp .le (13), 3) := by decide +kernel
theorem dm_60_9 : decode (kb_ 60) 9 = .ok (.new 106, 3) := by decide +kernel
theorem dm_60_12 : decode (kb_ 60) 12 = .ok (.dup, 1) := by decide +kernel
theorem dm_60_13 : decode (kb_ 60) 13 = .ok (.ldc 222, 2) := by decide +kernel
theorem dm_60_15 : decode (kb_ 60) 15 = .ok (.invokespecial 110, 3) := by decide +kernel
theorem dm_60_18 : decode (kb_ 60) 18 = .ok (.athrow, 1) := by decide +kernel
theorem dm_60_19 : decode (kb_ 60) 19 = .ok (.iload_n 1, 1) := by decide +kernel
theorem dm_60_20 : decode (kb_ 60) 20 = .ok (.ifCond .ne (11), 3) := by decide +kernel
theorem dm_60_23 : decode (kb_ 60) 23 = .ok (.aload_n 0, 1) := by decide +kernel
theorem dm_60_24 : decode (kb_ 60) 24 = .ok (.getfield 27, 3) := by decide +kernel
theorem dm_60_27 : decode (kb_ 60) 27 = .ok (.invokevirtual 64, 3) := by decide +kernel
theorem dm_60_30 : decode (kb_ 60) 30 = .ok (.ireturn, 1) := by decide +kernel
theorem dm_60_31 : decode (kb_ 60) 31 = .ok (.iload_n 1, 1) := by decide +kernel
theorem dm_60_32 : decode (kb_ 60) 32 = .ok (.iconst (1), 1) := by decide +kernel
theorem dm_60_33 : decode (kb_ 60) 33 = .ok (.if_icmp .ne (10), 3) := by decide +kernel
theorem dm_60_36 : decode (kb_ 60) 36 = .ok (.aload_n 0, 1) := by decide +kernel
theorem dm_60_37 : decode (kb_ 60) 37 = .ok (.getfield 91, 3) := by decide +kernel
theorem dm_60_40 : decode (kb_ 60) 40 = .ok (.goto (7), 3) := by decide +kernel
theorem dm_60_43 : decode (kb_ 60) 43 = .ok (.aload_n 0, 1) := by decide +kernel
theorem dm_60_44 : decode (kb_ 60) 44 = .ok (.getfield 111, 3) := by decide +kernel
theorem dm_60_47 : decode (kb_ 60) 47 = .ok (.ireturn, 1) := by decide +kernel
theorem dm_61_0 : decode (kb_ 61) 0 = .ok (.iload_n 1, 1) := by decide +kernel
theorem dm_61_1 : decode (kb_ 61) 1 = .ok (.ifCond .lt (11), 3) := by decide +kernel
theorem dm_61_4 : decode (kb_ 61) 4 = .ok (.iload_n 1, 1) := by decide +kernel
theorem dm_61_5 : decode (kb_ 61) 5 = .ok (.aload_n 0, 1) := by decide +kernel
theorem dm_61_6 : decode (kb_ 61) 6 = .ok (.getfield 91, 3) := by decide +kernel
theorem dm_61_9 : decode (kb_ 61) 9 = .ok (.if_icmp .lt (13), 3) := by decide +kernel
theorem dm_61_12 : decode (kb_ 61) 12 = .ok (.new 106, 3) := by decide +kernel
theorem dm_61_15 : decode (kb_ 61) 15 = .ok (.dup, 1) := by decide +kernel
theorem dm_61_16 : decode (kb_ 61) 16 = .ok (.ldc 108, 2) := by decide +kernel
theorem dm_61_18 : decode (kb_ 61) 18 = .ok (.invokespecial 110, 3) := by decide +kernel
