theorem dm_91_264 : decode (kb_ 91) 264 = .ok (.getfield 74, 3) := by decide +kernel
theorem dm_91_267 : decode (kb_ 91) 267 = .ok (.iload 7, 2) := by decide +kernel
theorem dm_91_269 : decode (kb_ 91) 269 = .ok (.aload_n 0, 1) := by decide +kernel
theorem dm_91_270 : decode (kb_ 91) 270 = .ok (.getfield 43, 3) := by decide +kernel
theorem dm_91_273 : decode (kb_ 91) 273 = .ok (.iload 6, 2) := by decide +kernel
theorem dm_91_275 : decode (kb_ 91) 275 = .ok (.aload_n 0, 1) := by decide +kernel
theorem dm_91_276 : decode (kb_ 91) 276 = .ok (.getfield 49, 3) := by decide +kernel
theorem dm_91_279 : decode (kb_ 91) 279 = .ok (.iload 6, 2) := by decide +kernel
theorem dm_91_281 : decode (kb_ 91) 281 = .ok (.iaload, 1) := by decide +kernel
theorem dm_91_282 : decode (kb_ 91) 282 = .ok (.iadd, 1) := by decide +kernel
theorem dm_91_283 : decode (kb_ 91) 283 = .ok (.iconst (1), 1) := by decide +kernel
theorem dm_91_284 : decode (kb_ 91) 284 = .ok (.isub, 1) := by decide +kernel
theorem dm_91_285 : decode (kb_ 91) 285 = .ok (.iaload, 1) := by decide +kernel
theorem dm_91_286 : decode (kb_ 91) 286 = .ok (.aload_n 0, 1) := by decide +kernel
theorem dm_91_287 : decode (kb_ 91) 287 = .ok (.getfield 40, 3) := by decide +kernel
theorem dm_91_290 : decode (kb_ 91) 290 = .ok (.iload 6, 2) := by decide +kernel
theorem dm_91_292 : decode (kb_ 91) 292 = .ok (.iaload, 1) := by decide +kernel
theorem dm_91_293 : decode (kb_ 91) 293 = .ok (.isub, 1) := by decide +kernel
theorem dm_91_294 : decode (kb_ 91) 294 = .ok (.iastore, 1) := by decide +kernel
theorem dm_91_295 : decode (kb_ 91) 295 = .ok (.aload_n 0, 1) := by decide +kernel
theorem dm_91_296 : decode (kb_ 91) 296 = .ok (.getfield 68, 3) := by decide +kernel
theorem dm_91_299 : decode (kb_ 91) 299 = .ok (.iload_n 3, 1) := by decide +kernel
theorem dm_91_300 : decode (kb_ 91) 300 = .ok (.dup2, 1) := by decide +kernel
theorem dm_91_301 : decode (kb_ 91) 301 = .ok (.iaload, 1) := by decide +kernel
theorem dm_91_302 : decode (kb_ 91) 302 = .ok (.iconst (1), 1) := by decide +kernel
theorem dm_91_303 : decode (kb_ 91) 303 = .ok (.iadd, 1) := by decide +kernel
theorem dm_91_304 : decode (kb_ 91) 304 = .ok (.iastore, 1) := by decide +kernel
theorem dm_91_305 : decode (kb_ 91) 305 = .ok (.iload 6, 2) := by decide +kernel
theorem dm_91_307 : decode (kb_ 91) 307 = .ok (.aload_n 0, 1) := by decide +kernel
theorem dm_91_308 : decode (kb_ 91) 308 = .ok (.getfield 49, 3) := by decide +kernel
theorem dm_91_311 : decode (kb_ 91) 311 = .ok (.iload 6, 2) := by decide +kernel
theorem dm_91_313 : decode (kb_ 91) 313 = .ok (.iaload, 1) := by decide +kernel
theorem dm_91_314 : decode (kb_ 91) 314 = .ok (.iadd, 1) := by decide +kernel
theorem dm_91_315 : decode (kb_ 91) 315 = .ok (.istore 6, 2) := by decide +kernel
theorem dm_91_317 : decode (kb_ 91) 317 = .ok (.goto (-95), 3) := by decide +kernel
theorem dm_91_320 : decode (kb_ 91) 320 = .ok (.aload_n 0, 1) := by decide +kernel
theorem dm_91_321 : decode (kb_ 91) 321 = .ok (.getfield 59, 3) := by decide +kernel
theorem dm_91_324 : decode (kb_ 91) 324 = .ok (.iconst (5), 1) := by decide +kernel
theorem dm_91_325 : decode (kb_ 91) 325 = .ok (.iload_n 1, 1) := by decide +kernel
theorem dm_91_326 : decode (kb_ 91) 326 = .ok (.imul, 1) := by decide +kernel
theorem dm_91_327 : decode (kb_ 91) 327 = .ok (.iconst (3), 1) := by decide +kernel
theorem dm_91_328 : decode (kb_ 91) 328 = .ok (.iadd, 1) := by decide +kernel
theorem dm_91_329 : decode (kb_ 91) 329 = .ok (.aload_n 0, 1) := by decide +kernel
theorem dm_91_330 : decode (kb_ 91) 330 = .ok (.getfield 59, 3) := by decide +kernel
theorem dm_91_333 : decode (kb_ 91) 333 = .ok (.iconst (5), 1) := by decide +kernel
theorem dm_91_334 : decode (kb_ 91) 334 = .ok (.iload_n 1, 1) := by decide +kernel
theorem dm_91_335 : decode (kb_ 91) 335 = .ok (.imul, 1) := by decide +kernel
theorem dm_91_336 : decode (kb_ 91) 336 = .ok (.iconst (3), 1) := by decide +kernel
theorem dm_91_337 : decode (kb_ 91) 337 = .ok (.iadd, 1) := by decide +kernel
theorem dm_91_338 : decode (kb_ 91) 338 = .ok (.iaload, 1) := by decide +kernel
theorem dm_91_339 : decode (kb_ 91) 339 = .ok (.aload_n 0, 1) := by decide +kernel
theorem dm_91_340 : decode (kb_ 91) 340 = .ok (.getfield 172, 3) := by decide +kernel
theorem dm_91_343 : decode (kb_ 91) 343 = .ok (.ifCond .le (17), 3) := by decide +kernel
theorem dm_91_346 : decode (kb_ 91) 346 = .ok (.iload 5, 2) := by decide +kernel
theorem dm_91_348 : decode (kb_ 91) 348 = .ok (.ifCond .eq (12), 3) := by decide +kernel
theorem dm_91_351 : decode (kb_ 91) 351 = .ok (.aload_n 0, 1) := by decide +kernel
theorem dm_91_352 : decode (kb_ 91) 352 = .ok (.getfield 46, 3) := by decide +kernel
theorem dm_91_355 : decode (kb_ 91) 355 = .ok (.iconst (0), 1) := by decide +kernel
theorem dm_91_356 : decode (kb_ 91) 356 = .ok (.iaload, 1) := by decide +kernel
theorem dm_91_357 : decode (kb_ 91) 357 = .ok (.goto (4), 3) := by decide +kernel
theorem dm_91_360 : decode (kb_ 91) 360 = .ok (.iconst (0), 1) := by decide +kernel
theorem dm_91_361 : decode (kb_ 91) 361 = .ok (.iadd, 1) := by decide +kernel
theorem dm_91_362 : decode (kb_ 91) 362 = .ok (.iastore, 1) := by decide +kernel
theorem dm_91_363 : decode (kb_ 91) 363 = .ok (.iload 5, 2) := by decide +kernel
theorem dm_91_365 : decode (kb_ 91) 365 = .ok (.ireturn, 1) := by decide +kernel
theorem dm_92_0 : decode (kb_ 92) 0 = .ok (.iload_n 2, 1) := by decide +kernel
theorem dm_92_1 : decode (kb_ 92) 1 = .ok (.aload_n 0, 1) := by decide +kernel
theorem dm_92_2 : decode (kb_ 92) 2 = .ok (.getfield 104, 3) := by decide +kernel
theorem dm_92_5 : decode (kb_ 92) 5 = .ok (.invokestatic 113, 3) := by decide +kernel
theorem dm_92_8 : decode (kb_ 92) 8 = .ok (.ifCond .eq (43), 3) := by decide +kernel
theorem dm_92_11 : decode (kb_ 92) 11 = .ok (.iload_n 3, 1) := by decide +kernel
theorem dm_92_12 : decode (kb_ 92) 12 = .ok (.iconst (2), 1) := by decide +kernel
theorem dm_92_13 : decode (kb_ 92) 13 = .ok (.invokestatic 113, 3) := by decide +kernel
theorem dm_92_16 : decode (kb_ 92) 16 = .ok (.ifCond .eq (35), 3) := by decide +kernel
theorem dm_92_19 : decode (kb_ 92) 19 = .ok (.aload_n 0, 1) := by decide +kernel
theorem dm_92_20 : decode (kb_ 92) 20 = .ok (.getfield 52, 3) := by decide +kernel
theorem dm_92_23 : decode (kb_ 92) 23 = .ok (.iconst (-1), 1) := by decide +kernel
theorem dm_92_24 : decode (kb_ 92) 24 = .ok (.if_icmp .eq (23), 3) := by decide +kernel
theorem dm_92_27 : decode (kb_ 92) 27 = .ok (.iload_n 1, 1) := by decide +kernel
theorem dm_92_28 : decode (kb_ 92) 28 = .ok (.iconst (1), 1) := by decide +kernel
theorem dm_92_29 : decode (kb_ 92) 29 = .ok (.if_icmp .lt (22), 3) := by decide +kernel
theorem dm_92_32 : decode (kb_ 92) 32 = .ok (.iload_n 1, 1) := by decide +kernel
theorem dm_92_33 : decode (kb_ 92) 33 = .ok (.aload_n 0, 1) := by decide +kernel
theorem dm_92_34 : decode (kb_ 92) 34 = .ok (.getfield 59, 3) := by decide +kernel
theorem dm_92_37 : decode (kb_ 92) 37 = .ok (.iconst (5), 1) := by decide +kernel
theorem dm_92_38 : decode (kb_ 92) 38 = .ok (.aload_n 0, 1) := by decide +kernel
theorem dm_92_39 : decode (kb_ 92) 39 = .ok (.getfield 52, 3) := by decide +kernel
theorem dm_92_42 : decode (kb_ 92) 42 = .ok (.imul, 1) := by decide +kernel
theorem dm_92_43 : decode (kb_ 92) 43 = .ok (.iaload, 1) := by decide +kernel
theorem dm_92_44 : decode (kb_ 92) 44 = .ok (.if_icmp .gt (7), 3) := by decide +kernel
theorem dm_92_47 : decode (kb_ 92) 47 = .ok (.iconst (1), 1) := by decide +kernel
theorem dm_92_48 : decode (kb_ 92) 48 = .ok (.goto (4), 3) := by decide +kernel
theorem dm_92_51 : decode (kb_ 92) 51 = .ok (.iconst (0), 1) := by decide +kernel
theorem dm_92_52 : decode (kb_ 92) 52 = .ok (.istore 4, 2) := by decide +kernel
theorem dm_92_54 : decode (kb_ 92) 54 = .ok (.aload_n 0, 1) := by decide +kernel
theorem dm_92_55 : decode (kb_ 92) 55 = .ok (.iload 4, 2) := by decide +kernel
theorem dm_92_57 : decode (kb_ 92) 57 = .ok (.aload_n 0, 1) := by decide +kernel
theorem dm_92_58 : decode (kb_ 92) 58 = .ok (.getfield 52, 3) := by decide +kernel
theorem dm_92_61 : decode (kb_ 92) 61 = .ok (.iconst (-1), 1) := by decide +kernel
theorem dm_92_62 : decode (kb_ 92) 62 = .ok (.if_icmp .eq (7), 3) := by decide +kernel
theorem dm_92_65 : decode (kb_ 92) 65 = .ok (.iconst (1), 1) := by decide +kernel
theorem dm_92_66 : decode (kb_ 92) 66 = .ok (.goto (4), 3) := by decide +kernel
theorem dm_92_69 : decode (kb_ 92) 69 = .ok (.iconst (0), 1) := by decide +kernel
theorem dm_92_70 : decode (kb_ 92) 70 = .ok (.invokevirtual 128, 3) := by decide +kernel
theorem dm_92_73 : decode (kb_ 92) 73 = .ok (.ifCond .ne (5), 3) := by decide +kernel
theorem dm_92_76 : decode (kb_ 92) 76 = .ok (.iconst (0), 1) := by decide +kernel
theorem dm_92_77 : decode (kb_ 92) 77 = .ok (.ireturn, 1) := by decide +kernel
theorem dm_92_78 : decode (kb_ 92) 78 = .ok (.iconst (-1), 1) := by decide +kernel
theorem dm_92_79 : decode (kb_ 92) 79 = .ok (.istore 5, 2) := by decide +kernel
theorem dm_92_81 : decode (kb_ 92) 81 = .ok (.sipush (900), 3) := by decide +kernel
theorem dm_92_84 : decode (kb_ 92) 84 = .ok (.aload_n 0, 1) := by decide +kernel
theorem dm_92_85 : decode (kb_ 92) 85 = .ok (.getfield 52, 3) := by decide +kernel
theorem dm_92_88 : decode (kb_ 92) 88 = .ok (.imul, 1) := by decide +kernel
theorem dm_92_89 : decode (kb_ 92) 89 = .ok (.istore 6, 2) := by decide +kernel
theorem dm_92_91 : decode (kb_ 92) 91 = .ok (.iload 6, 2) := by decide +kernel
theorem dm_92_93 : decode (kb_ 92) 93 = .ok (.sipush (900), 3) := by decide +kernel
theorem dm_92_96 : decode (kb_ 92) 96 = .ok (.aload_n 0, 1) := by decide +kernel
theorem dm_92_97 : decode (kb_ 92) 97 = .ok (.getfield 52, 3) := by decide +kernel
theorem dm_92_100 : decode (kb_ 92) 100 = .ok (.imul, 1) := by decide +kernel
theorem dm_92_101 : decode (kb_ 92) 101 = .ok (.aload_n 0, 1) := by decide +kernel
theorem dm_92_102 : decode (kb_ 92) 102 = .ok (.getfield 80, 3) := by decide +kernel
theorem dm_92_105 : decode (kb_ 92) 105 = .ok (.aload_n 0, 1) := by decide +kernel
theorem dm_92_106 : decode (kb_ 92) 106 = .ok (.getfield 52, 3) := by decide +kernel
theorem dm_92_109 : decode (kb_ 92) 109 = .ok (.iaload, 1) := by decide +kernel
theorem dm_92_110 : decode (kb_ 92) 110 = .ok (.iadd, 1) := by decide +kernel
theorem dm_92_111 : decode (kb_ 92) 111 = .ok (.if_icmp .ge (97), 3) := by decide +kernel
theorem dm_92_114 : decode (kb_ 92) 114 = .ok (.iload_n 2, 1) := by decide +kernel
theorem dm_92_115 : decode (kb_ 92) 115 = .ok (.aload_n 0, 1) := by decide +kernel
theorem dm_92_116 : decode (kb_ 92) 116 = .ok (.getfield 98, 3) := by decide +kernel
theorem dm_92_119 : decode (kb_ 92) 119 = .ok (.iload 6, 2) := by decide +kernel
theorem dm_92_121 : decode (kb_ 92) 121 = .ok (.iaload, 1) := by decide +kernel
theorem dm_92_122 : decode (kb_ 92) 122 = .ok (.isub, 1) := by decide +kernel
theorem dm_92_123 : decode (kb_ 92) 123 = .ok (.istore 7, 2) := by decide +kernel
theorem dm_92_125 : decode (kb_ 92) 125 = .ok (.aload_n 0, 1) := by decide +kernel
theorem dm_92_126 : decode (kb_ 92) 126 = .ok (.getfield 95, 3) := by decide +kernel
theorem dm_92_129 : decode (kb_ 92) 129 = .ok (.iload 6, 2) := by decide +kernel
theorem dm_92_131 : decode (kb_ 92) 131 = .ok (.iaload, 1) := by decide +kernel
theorem dm_92_132 : decode (kb_ 92) 132 = .ok (.iload_n 1, 1) := by decide +kernel
theorem dm_92_133 : decode (kb_ 92) 133 = .ok (.if_icmp .ne (69), 3) := by decide +kernel
theorem dm_92_136 : decode (kb_ 92) 136 = .ok (.iload 7, 2) := by decide +kernel
theorem dm_92_138 : decode (kb_ 92) 138 = .ok (.ifCond .lt (64), 3) := by decide +kernel
theorem dm_92_141 : decode (kb_ 92) 141 = .ok (.iload 7, 2) := by decide +kernel
theorem dm_92_143 : decode (kb_ 92) 143 = .ok (.aload_n 0, 1) := by decide +kernel
theorem dm_92_144 : decode (kb_ 92) 144 = .ok (.iload 6, 2) := by decide +kernel
theorem dm_92_146 : decode (kb_ 92) 146 = .ok (.invokevirtual 182, 3) := by decide +kernel
theorem dm_92_149 : decode (kb_ 92) 149 = .ok (.if_icmp .ge (53), 3) := by decide +kernel
theorem dm_92_152 : decode (kb_ 92) 152 = .ok (.iload_n 3, 1) := by decide +kernel
theorem dm_92_153 : decode (kb_ 92) 153 = .ok (.ifCond .ne (13), 3) := by decide +kernel
theorem dm_92_156 : decode (kb_ 92) 156 = .ok (.aload_n 0, 1) := by decide +kernel
theorem dm_92_157 : decode (kb_ 92) 157 = .ok (.getfield 83, 3) := by decide +kernel
theorem dm_92_160 : decode (kb_ 92) 160 = .ok (.iload 6, 2) := by decide +kernel
theorem dm_92_162 : decode (kb_ 92) 162 = .ok (.iaload, 1) := by decide +kernel
theorem dm_92_163 : decode (kb_ 92) 163 = .ok (.goto (37), 3) := by decide +kernel
theorem dm_92_166 : decode (kb_ 92) 166 = .ok (.iload 7, 2) := by decide +kernel
theorem dm_92_168 : decode (kb_ 92) 168 = .ok (.aload_n 0, 1) := by decide +kernel
theorem dm_92_169 : decode (kb_ 92) 169 = .ok (.getfield 86, 3) := by decide +kernel
theorem dm_92_172 : decode (kb_ 92) 172 = .ok (.iload 6, 2) := by decide +kernel
theorem dm_92_174 : decode (kb_ 92) 174 = .ok (.iaload, 1) := by decide +kernel
theorem dm_92_175 : decode (kb_ 92) 175 = .ok (.if_icmp .ge (7), 3) := by decide +kernel
theorem dm_92_178 : decode (kb_ 92) 178 = .ok (.iconst (-1), 1) := by decide +kernel
theorem dm_92_179 : decode (kb_ 92) 179 = .ok (.goto (21), 3) := by decide +kernel
theorem dm_92_182 : decode (kb_ 92) 182 = .ok (.aload_n 0, 1) := by decide +kernel
theorem dm_92_183 : decode (kb_ 92) 183 = .ok (.getfield 89, 3) := by decide +kernel
theorem dm_92_186 : decode (kb_ 92) 186 = .ok (.iload 6, 2) := by decide +kernel
theorem dm_92_188 : decode (kb_ 92) 188 = .ok (.iaload, 1) := by decide +kernel
theorem dm_92_189 : decode (kb_ 92) 189 = .ok (.iload 7, 2) := by decide +kernel
theorem dm_92_191 : decode (kb_ 92) 191 = .ok (.iadd, 1) := by decide +kernel
theorem dm_92_192 : decode (kb_ 92) 192 = .ok (.aload_n 0, 1) := by decide +kernel
theorem dm_92_193 : decode (kb_ 92) 193 = .ok (.getfield 86, 3) := by decide +kernel
theorem dm_92_196 : decode (kb_ 92) 196 = .ok (.iload 6, 2) := by decide +kernel
theorem dm_92_198 : decode (kb_ 92) 198 = .ok (.iaload, 1) := by decide +kernel
theorem dm_92_199 : decode (kb_ 92) 199 = .ok (.isub, 1) := by decide +kernel
theorem dm_92_200 : decode (kb_ 92) 200 = .ok (.istore 5, 2) := by decide +kernel
theorem dm_92_202 : decode (kb_ 92) 202 = .ok (.iinc 6 (1), 3) := by decide +kernel
theorem dm_92_205 : decode (kb_ 92) 205 = .ok (.goto (-114), 3) := by decide +kernel
theorem dm_92_208 : decode (kb_ 92) 208 = .ok (.iload 5, 2) := by decide +kernel
theorem dm_92_210 : decode (kb_ 92) 210 = .ok (.ireturn, 1) := by decide +kernel
theorem dm_93_0 : decode (kb_ 93) 0 = .ok (.iconst (1), 1) := by decide +kernel
theorem dm_93_1 : decode (kb_ 93) 1 = .ok (.istore_n 1, 1) := by decide +kernel
theorem dm_93_2 : decode (kb_ 93) 2 = .ok (.iconst (0), 1) := by decide +kernel
theorem dm_93_3 : decode (kb_ 93) 3 = .ok (.istore_n 2, 1) := by decide +kernel
theorem dm_93_4 : decode (kb_ 93) 4 = .ok (.iload_n 2, 1) := by decide +kernel
theorem dm_93_5 : decode (kb_ 93) 5 = .ok (.aload_n 0, 1) := by decide +kernel
theorem dm_93_6 : decode (kb_ 93) 6 = .ok (.getfield 117, 3) := by decide +kernel
theorem dm_93_9 : decode (kb_ 93) 9 = .ok (.if_icmp .ge (69), 3) := by decide +kernel
theorem dm_93_12 : decode (kb_ 93) 12 = .ok (.iload_n 1, 1) := by decide +kernel
theorem dm_93_13 : decode (kb_ 93) 13 = .ok (.ifCond .eq (19), 3) := by decide +kernel
theorem dm_93_16 : decode (kb_ 93) 16 = .ok (.aload_n 0, 1) := by decide +kernel
theorem dm_93_17 : decode (kb_ 93) 17 = .ok (.getfield 7, 3) := by decide +kernel
theorem dm_93_20 : decode (kb_ 93) 20 = .ok (.iload_n 2, 1) := by decide +kernel
theorem dm_93_21 : decode (kb_ 93) 21 = .ok (.iaload, 1) := by decide +kernel
theorem dm_93_22 : decode (kb_ 93) 22 = .ok (.invokestatic 136, 3) := by decide +kernel
theorem dm_93_25 : decode (kb_ 93) 25 = .ok (.ifCond .eq (7), 3) := by decide +kernel
theorem dm_93_28 : decode (kb_ 93) 28 = .ok (.iconst (1), 1) := by decide +kernel
theorem dm_93_29 : decode (kb_ 93) 29 = .ok (.goto (4), 3) := by decide +kernel
theorem dm_93_32 : decode (kb_ 93) 32 = .ok (.iconst (0), 1) := by decide +kernel
theorem dm_93_33 : decode (kb_ 93) 33 = .ok (.istore_n 1, 1) := by decide +kernel
theorem dm_93_34 : decode (kb_ 93) 34 = .ok (.iconst (0), 1) := by decide +kernel
theorem dm_93_35 : decode (kb_ 93) 35 = .ok (.istore_n 3, 1) := by decide +kernel
theorem dm_93_36 : decode (kb_ 93) 36 = .ok (.iload_n 3, 1) := by decide +kernel
theorem dm_93_37 : decode (kb_ 93) 37 = .ok (.iload_n 2, 1) := by decide +kernel
theorem dm_93_38 : decode (kb_ 93) 38 = .ok (.if_icmp .ge (34), 3) := by decide +kernel
theorem dm_93_41 : decode (kb_ 93) 41 = .ok (.iload_n 1, 1) := by decide +kernel
theorem dm_93_42 : decode (kb_ 93) 42 = .ok (.ifCond .eq (22), 3) := by decide +kernel
theorem dm_93_45 : decode (kb_ 93) 45 = .ok (.aload_n 0, 1) := by decide +kernel
theorem dm_93_46 : decode (kb_ 93) 46 = .ok (.getfield 7, 3) := by decide +kernel
theorem dm_93_49 : decode (kb_ 93) 49 = .ok (.iload_n 2, 1) := by decide +kernel
theorem dm_93_50 : decode (kb_ 93) 50 = .ok (.iaload, 1) := by decide +kernel
theorem dm_93_51 : decode (kb_ 93) 51 = .ok (.aload_n 0, 1) := by decide +kernel
theorem dm_93_52 : decode (kb_ 93) 52 = .ok (.getfield 7, 3) := by decide +kernel
theorem dm_93_55 : decode (kb_ 93) 55 = .ok (.iload_n 3, 1) := by decide +kernel
theorem dm_93_56 : decode (kb_ 93) 56 = .ok (.iaload, 1) := by decide +kernel
theorem dm_93_57 : decode (kb_ 93) 57 = .ok (.if_icmp .eq (7), 3) := by decide +kernel
theorem dm_93_60 : decode (kb_ 93) 60 = .ok (.iconst (1), 1) := by decide +kernel
theorem dm_93_61 : decode (kb_ 93) 61 = .ok (.goto (4), 3) := by decide +kernel
theorem dm_93_64 : decode (kb_ 93) 64 = .ok (.iconst (0), 1) := by decide +kernel
theorem dm_93_65 : decode (kb_ 93) 65 = .ok (.istore_n 1, 1) := by decide +kernel
theorem dm_93_66 : decode (kb_ 93) 66 = .ok (.iinc 3 (1), 3) := by decide +kernel
theorem dm_93_69 : decode (kb_ 93) 69 = .ok (.goto (-33), 3) := by decide +kernel
theorem dm_93_72 : decode (kb_ 93) 72 = .ok (.iinc 2 (1), 3) := by decide +kernel
theorem dm_93_75 : decode (kb_ 93) 75 = .ok (.goto (-71), 3) := by decide +kernel
theorem dm_93_78 : decode (kb_ 93) 78 = .ok (.aload_n 0, 1) := by decide +kernel
theorem dm_93_79 : decode (kb_ 93) 79 = .ok (.iload_n 1, 1) := by decide +kernel
theorem dm_93_80 : decode (kb_ 93) 80 = .ok (.iconst (1), 1) := by decide +kernel
theorem dm_93_81 : decode (kb_ 93) 81 = .ok (.invokevirtual 128, 3) := by decide +kernel
theorem dm_93_84 : decode (kb_ 93) 84 = .ok (.ifCond .ne (5), 3) := by decide +kernel
theorem dm_93_87 : decode (kb_ 93) 87 = .ok (.iconst (0), 1) := by decide +kernel
theorem dm_93_88 : decode (kb_ 93) 88 = .ok (.ireturn, 1) := by decide +kernel
theorem dm_93_89 : decode (kb_ 93) 89 = .ok (.aload_n 0, 1) := by decide +kernel
theorem dm_93_90 : decode (kb_ 93) 90 = .ok (.aload_n 0, 1) := by decide +kernel
theorem dm_93_91 : decode (kb_ 93) 91 = .ok (.getfield 117, 3) := by decide +kernel
theorem dm_93_94 : decode (kb_ 93) 94 = .ok (.putfield 149, 3) := by decide +kernel
theorem dm_93_97 : decode (kb_ 93) 97 = .ok (.iconst (0), 1) := by decide +kernel
theorem dm_93_98 : decode (kb_ 93) 98 = .ok (.istore_n 2, 1) := by decide +kernel
theorem dm_93_99 : decode (kb_ 93) 99 = .ok (.iload_n 2, 1) := by decide +kernel
theorem dm_93_100 : decode (kb_ 93) 100 = .ok (.aload_n 0, 1) := by decide +kernel
theorem dm_93_101 : decode (kb_ 93) 101 = .ok (.getfield 117, 3) := by decide +kernel
theorem dm_93_104 : decode (kb_ 93) 104 = .ok (.if_icmp .ge (21), 3) := by decide +kernel
theorem dm_93_107 : decode (kb_ 93) 107 = .ok (.aload_n 0, 1) := by decide +kernel
theorem dm_93_108 : decode (kb_ 93) 108 = .ok (.getfield 34, 3) := by decide +kernel
theorem dm_93_111 : decode (kb_ 93) 111 = .ok (.iload_n 2, 1) := by decide +kernel
theorem dm_93_112 : decode (kb_ 93) 112 = .ok (.aload_n 0, 1) := by decide +kernel
theorem dm_93_113 : decode (kb_ 93) 113 = .ok (.getfield 7, 3) := by decide +kernel
theorem dm_93_116 : decode (kb_ 93) 116 = .ok (.iload_n 2, 1) := by decide +kernel
theorem dm_93_117 : decode (kb_ 93) 117 = .ok (.iaload, 1) := by decide +kernel
theorem dm_93_118 : decode (kb_ 93) 118 = .ok (.iastore, 1) := by decide +kernel
theorem dm_93_119 : decode (kb_ 93) 119 = .ok (.iinc 2 (1), 3) := by decide +kernel
theorem dm_93_122 : decode (kb_ 93) 122 = .ok (.goto (-23), 3) := by decide +kernel
theorem dm_93_125 : decode (kb_ 93) 125 = .ok (.aload_n 0, 1) := by decide +kernel
theorem dm_93_126 : decode (kb_ 93) 126 = .ok (.iconst (0), 1) := by decide +kernel
theorem dm_93_127 : decode (kb_ 93) 127 = .ok (.putfield 117, 3) := by decide +kernel
theorem dm_93_130 : decode (kb_ 93) 130 = .ok (.aload_n 0, 1) := by decide +kernel
theorem dm_93_131 : decode (kb_ 93) 131 = .ok (.getfield 149, 3) := by decide +kernel
theorem dm_93_134 : decode (kb_ 93) 134 = .ok (.ireturn, 1) := by decide +kernel
theorem dm_94_0 : decode (kb_ 94) 0 = .ok (.aload_n 0, 1) := by decide +kernel
theorem dm_94_1 : decode (kb_ 94) 1 = .ok (.getfield 68, 3) := by decide +kernel
theorem dm_94_4 : decode (kb_ 94) 4 = .ok (.bipush (8), 2) := by decide +kernel
theorem dm_94_6 : decode (kb_ 94) 6 = .ok (.iload_n 1, 1) := by decide +kernel
theorem dm_94_7 : decode (kb_ 94) 7 = .ok (.imul, 1) := by decide +kernel
theorem dm_94_8 : decode (kb_ 94) 8 = .ok (.iload_n 2, 1) := by decide +kernel
theorem dm_94_9 : decode (kb_ 94) 9 = .ok (.iadd, 1) := by decide +kernel
theorem dm_94_10 : decode (kb_ 94) 10 = .ok (.iaload, 1) := by decide +kernel
theorem dm_94_11 : decode (kb_ 94) 11 = .ok (.istore_n 3, 1) := by decide +kernel
theorem dm_94_12 : decode (kb_ 94) 12 = .ok (.iload_n 3, 1) := by decide +kernel
theorem dm_94_13 : decode (kb_ 94) 13 = .ok (.iconst (2), 1) := by decide +kernel
theorem dm_94_14 : decode (kb_ 94) 14 = .ok (.if_icmp .ge (7), 3) := by decide +kernel
theorem dm_94_17 : decode (kb_ 94) 17 = .ok (.iload_n 3, 1) := by decide +kernel
theorem dm_94_18 : decode (kb_ 94) 18 = .ok (.goto (4), 3) := by decide +kernel
theorem dm_94_21 : decode (kb_ 94) 21 = .ok (.iconst (2), 1) := by decide +kernel
theorem dm_94_22 : decode (kb_ 94) 22 = .ok (.istore 4, 2) := by decide +kernel
theorem dm_94_24 : decode (kb_ 94) 24 = .ok (.iload_n 3, 1) := by decide +kernel
theorem dm_94_25 : decode (kb_ 94) 25 = .ok (.ifCond .gt (12), 3) := by decide +kernel
theorem dm_94_28 : decode (kb_ 94) 28 = .ok (.aload_n 0, 1) := by decide +kernel
theorem dm_94_29 : decode (kb_ 94) 29 = .ok (.getfield 28, 3) := by decide +kernel
theorem dm_94_32 : decode (kb_ 94) 32 = .ok (.iload_n 2, 1) := by decide +kernel
theorem dm_94_33 : decode (kb_ 94) 33 = .ok (.iaload, 1) := by decide +kernel
theorem dm_94_34 : decode (kb_ 94) 34 = .ok (.ifCond .le (18), 3) := by decide +kernel
theorem dm_94_37 : decode (kb_ 94) 37 = .ok (.aload_n 0, 1) := by decide +kernel
theorem dm_94_38 : decode (kb_ 94) 38 = .ok (.iload_n 1, 1) := by decide +kernel
theorem dm_94_39 : decode (kb_ 94) 39 = .ok (.iload_n 2, 1) := by decide +kernel
theorem dm_94_40 : decode (kb_ 94) 40 = .ok (.aload_n 0, 1) := by decide +kernel
theorem dm_94_41 : decode (kb_ 94) 41 = .ok (.getfield 28, 3) := by decide +kernel
theorem dm_94_44 : decode (kb_ 94) 44 = .ok (.iload_n 2, 1) := by decide +kernel
theorem dm_94_45 : decode (kb_ 94) 45 = .ok (.iaload, 1) := by decide +kernel
theorem dm_94_46 : decode (kb_ 94) 46 = .ok (.iconst (0), 1) := by decide +kernel
theorem dm_94_47 : decode (kb_ 94) 47 = .ok (.iload 4, 2) := by decide +kernel
theorem dm_94_49 : decode (kb_ 94) 49 = .ok (.invokevirtual 178, 3) := by decide +kernel
theorem dm_94_52 : decode (kb_ 94) 52 = .ok (.iconst (2), 1) := by decide +kernel
theorem dm_94_53 : decode (kb_ 94) 53 = .ok (.istore 5, 2) := by decide +kernel
theorem dm_94_55 : decode (kb_ 94) 55 = .ok (.iload 5, 2) := by decide +kernel
theorem dm_94_57 : decode (kb_ 94) 57 = .ok (.iload_n 3, 1) := by decide +kernel
theorem dm_94_58 : decode (kb_ 94) 58 = .ok (.if_icmp .ge (19), 3) := by decide +kernel
theorem dm_94_61 : decode (kb_ 94) 61 = .ok (.aload_n 0, 1) := by decide +kernel
theorem dm_94_62 : decode (kb_ 94) 62 = .ok (.iload_n 1, 1) := by decide +kernel
theorem dm_94_63 : decode (kb_ 94) 63 = .ok (.iload_n 2, 1) := by decide +kernel
theorem dm_94_64 : decode (kb_ 94) 64 = .ok (.iconst (0), 1) := by decide +kernel
theorem dm_94_65 : decode (kb_ 94) 65 = .ok (.iload 5, 2) := by decide +kernel
theorem dm_94_67 : decode (kb_ 94) 67 = .ok (.iconst (1), 1) := by decide +kernel
theorem dm_94_68 : decode (kb_ 94) 68 = .ok (.invokevirtual 178, 3) := by decide +kernel
theorem dm_94_71 : decode (kb_ 94) 71 = .ok (.iinc 5 (1), 3) := by decide +kernel
theorem dm_94_74 : decode (kb_ 94) 74 = .ok (.goto (-19), 3) := by decide +kernel
theorem dm_94_77 : decode (kb_ 94) 77 = .ok (.aload_n 0, 1) := by decide +kernel
theorem dm_94_78 : decode (kb_ 94) 78 = .ok (.getfield 28, 3) := by decide +kernel
theorem dm_94_81 : decode (kb_ 94) 81 = .ok (.iload_n 2, 1) := by decide +kernel
theorem dm_94_82 : decode (kb_ 94) 82 = .ok (.iaload, 1) := by decide +kernel
theorem dm_94_83 : decode (kb_ 94) 83 = .ok (.iload 4, 2) := by decide +kernel
theorem dm_94_85 : decode (kb_ 94) 85 = .ok (.iadd, 1) := by decide +kernel
theorem dm_94_86 : decode (kb_ 94) 86 = .ok (.aload_n 0, 1) := by decide +kernel
theorem dm_94_87 : decode (kb_ 94) 87 = .ok (.getfield 104, 3) := by decide +kernel
theorem dm_94_90 : decode (kb_ 94) 90 = .ok (.if_icmp .gt (7), 3) := by decide +kernel
theorem dm_94_93 : decode (kb_ 94) 93 = .ok (.iconst (1), 1) := by decide +kernel
theorem dm_94_94 : decode (kb_ 94) 94 = .ok (.goto (4), 3) := by decide +kernel
theorem dm_94_97 : decode (kb_ 94) 97 = .ok (.iconst (0), 1) := by decide +kernel
theorem dm_94_98 : decode (kb_ 94) 98 = .ok (.ireturn, 1) := by decide +kernel
theorem dm_95_0 : decode (kb_ 95) 0 = .ok (.iconst (0), 1) := by decide +kernel
theorem dm_95_1 : decode (kb_ 95) 1 = .ok (.istore_n 2, 1) := by decide +kernel
theorem dm_95_2 : decode (kb_ 95) 2 = .ok (.iload_n 2, 1) := by decide +kernel
theorem dm_95_3 : decode (kb_ 95) 3 = .ok (.aload_n 0, 1) := by decide +kernel
theorem dm_95_4 : decode (kb_ 95) 4 = .ok (.getfield 22, 3) := by decide +kernel
theorem dm_95_7 : decode (kb_ 95) 7 = .ok (.iload_n 1, 1) := by decide +kernel
theorem dm_95_8 : decode (kb_ 95) 8 = .ok (.iaload, 1) := by decide +kernel
theorem dm_95_9 : decode (kb_ 95) 9 = .ok (.if_icmp .ge (24), 3) := by decide +kernel
theorem dm_95_12 : decode (kb_ 95) 12 = .ok (.aload_n 0, 1) := by decide +kernel
theorem dm_95_13 : decode (kb_ 95) 13 = .ok (.aload_n 0, 1) := by decide +kernel
theorem dm_95_14 : decode (kb_ 95) 14 = .ok (.getfield 25, 3) := by decide +kernel
theorem dm_95_17 : decode (kb_ 95) 17 = .ok (.bipush (32), 2) := by decide +kernel
theorem dm_95_19 : decode (kb_ 95) 19 = .ok (.iload_n 1, 1) := by decide +kernel
theorem dm_95_20 : decode (kb_ 95) 20 = .ok (.imul, 1) := by decide +kernel
theorem dm_95_21 : decode (kb_ 95) 21 = .ok (.iload_n 2, 1) := by decide +kernel
theorem dm_95_22 : decode (kb_ 95) 22 = .ok (.iadd, 1) := by decide +kernel
theorem dm_95_23 : decode (kb_ 95) 23 = .ok (.iaload, 1) := by decide +kernel
theorem dm_95_24 : decode (kb_ 95) 24 = .ok (.invokevirtual 155, 3) := by decide +kernel
theorem dm_95_27 : decode (kb_ 95) 27 = .ok (.iinc 2 (1), 3) := by decide +kernel
theorem dm_95_30 : decode (kb_ 95) 30 = .ok (.goto (-28), 3) := by decide +kernel
theorem dm_95_33 : decode (kb_ 95) 33 = .ok (.return_, 1) := by decide +kernel
theorem dm_96_0 : decode (kb_ 96) 0 = .ok (.iload_n 1, 1) := by decide +kernel
theorem dm_96_1 : decode (kb_ 96) 1 = .ok (.bipush (99), 2) := by decide +kernel
theorem dm_96_3 : decode (kb_ 96) 3 = .ok (.if_icmp .le (14), 3) := by decide +kernel
theorem dm_96_6 : decode (kb_ 96) 6 = .ok (.aload_n 0, 1) := by decide +kernel
theorem dm_96_7 : decode (kb_ 96) 7 = .ok (.bipush (48), 2) := by decide +kernel
theorem dm_96_9 : decode (kb_ 96) 9 = .ok (.iload_n 1, 1) := by decide +kernel
theorem dm_96_10 : decode (kb_ 96) 10 = .ok (.bipush (100), 2) := by decide +kernel
theorem dm_96_12 : decode (kb_ 96) 12 = .ok (.idiv, 1) := by decide +kernel
theorem dm_96_13 : decode (kb_ 96) 13 = .ok (.iadd, 1) := by decide +kernel
theorem dm_96_14 : decode (kb_ 96) 14 = .ok (.invokevirtual 155, 3) := by decide +kernel
theorem dm_96_17 : decode (kb_ 96) 17 = .ok (.iload_n 1, 1) := by decide +kernel
theorem dm_96_18 : decode (kb_ 96) 18 = .ok (.bipush (9), 2) := by decide +kernel
theorem dm_96_20 : decode (kb_ 96) 20 = .ok (.if_icmp .le (17), 3) := by decide +kernel
theorem dm_96_23 : decode (kb_ 96) 23 = .ok (.aload_n 0, 1) := by decide +kernel
theorem dm_96_24 : decode (kb_ 96) 24 = .ok (.bipush (48), 2) := by decide +kernel
theorem dm_96_26 : decode (kb_ 96) 26 = .ok (.iload_n 1, 1) := by decide +kernel
theorem dm_96_27 : decode (kb_ 96) 27 = .ok (.bipush (10), 2) := by decide +kernel
theorem dm_96_29 : decode (kb_ 96) 29 = .ok (.idiv, 1) := by decide +kernel
theorem dm_96_30 : decode (kb_ 96) 30 = .ok (.bipush (10), 2) := by decide +kernel
theorem dm_96_32 : decode (kb_ 96) 32 = .ok (.irem, 1) := by decide +kernel
theorem dm_96_33 : decode (kb_ 96) 33 = .ok (.iadd, 1) := by decide +kernel
theorem dm_96_34 : decode (kb_ 96) 34 = .ok (.invokevirtual 155, 3) := by decide +kernel
theorem dm_96_37 : decode (kb_ 96) 37 = .ok (.aload_n 0, 1) := by decide +kernel
theorem dm_96_38 : decode (kb_ 96) 38 = .ok (.bipush (48), 2) := by decide +kernel
theorem dm_96_40 : decode (kb_ 96) 40 = .ok (.iload_n 1, 1) := by decide +kernel
theorem dm_96_41 : decode (kb_ 96) 41 = .ok (.bipush (10), 2) := by decide +kernel
theorem dm_96_43 : decode (kb_ 96) 43 = .ok (.irem, 1) := by decide +kernel
theorem dm_96_44 : decode (kb_ 96) 44 = .ok (.iadd, 1) := by decide +kernel
theorem dm_96_45 : decode (kb_ 96) 45 = .ok (.invokevirtual 155, 3) := by decide +kernel
theorem dm_96_48 : decode (kb_ 96) 48 = .ok (.return_, 1) := by decide +kernel
theorem dm_97_0 : decode (kb_ 97) 0 = .ok (.aload_n 0, 1) := by decide +kernel
theorem dm_97_1 : decode (kb_ 97) 1 = .ok (.getfield 46, 3) := by decide +kernel
theorem dm_97_4 : decode (kb_ 97) 4 = .ok (.iload_n 2, 1) := by decide +kernel
theorem dm_97_5 : decode (kb_ 97) 5 = .ok (.iconst (-1), 1) := by decide +kernel
theorem dm_97_6 : decode (kb_ 97) 6 = .ok (.iastore, 1) := by decide +kernel
theorem dm_97_7 : decode (kb_ 97) 7 = .ok (.iconst (0), 1) := by decide +kernel
theorem dm_97_8 : decode (kb_ 97) 8 = .ok (.istore_n 3, 1) := by decide +kernel
theorem dm_97_9 : decode (kb_ 97) 9 = .ok (.iconst (1), 1) := by decide +kernel
theorem dm_97_10 : decode (kb_ 97) 10 = .ok (.istore 4, 2) := by decide +kernel
theorem dm_97_12 : decode (kb_ 97) 12 = .ok (.iload_n 2, 1) := by decide +kernel
theorem dm_97_13 : decode (kb_ 97) 13 = .ok (.iload 4, 2) := by decide +kernel
theorem dm_97_15 : decode (kb_ 97) 15 = .ok (.iadd, 1) := by decide +kernel
theorem dm_97_16 : decode (kb_ 97) 16 = .ok (.aload_n 0, 1) := by decide +kernel
theorem dm_97_17 : decode (kb_ 97) 17 = .ok (.getfield 80, 3) := by decide +kernel
theorem dm_97_20 : decode (kb_ 97) 20 = .ok (.iload_n 1, 1) := by decide +kernel
theorem dm_97_21 : decode (kb_ 97) 21 = .ok (.iaload, 1) := by decide +kernel
theorem dm_97_22 : decode (kb_ 97) 22 = .ok (.if_icmp .gt (127), 3) := by decide +kernel
theorem dm_97_25 : decode (kb_ 97) 25 = .ok (.iload_n 3, 1) := by decide +kernel
theorem dm_97_26 : decode (kb_ 97) 26 = .ok (.aload_n 0, 1) := by decide +kernel
theorem dm_97_27 : decode (kb_ 97) 27 = .ok (.sipush (900), 3) := by decide +kernel
theorem dm_97_30 : decode (kb_ 97) 30 = .ok (.iload_n 1, 1) := by decide +kernel
theorem dm_97_31 : decode (kb_ 97) 31 = .ok (.imul, 1) := by decide +kernel
theorem dm_97_32 : decode (kb_ 97) 32 = .ok (.iload_n 2, 1) := by decide +kernel
theorem dm_97_33 : decode (kb_ 97) 33 = .ok (.iadd, 1) := by decide +kernel
theorem dm_97_34 : decode (kb_ 97) 34 = .ok (.iload 4, 2) := by decide +kernel
theorem dm_97_36 : decode (kb_ 97) 36 = .ok (.iadd, 1) := by decide +kernel
theorem dm_97_37 : decode (kb_ 97) 37 = .ok (.iconst (1), 1) := by decide +kernel
theorem dm_97_38 : decode (kb_ 97) 38 = .ok (.isub, 1) := by decide +kernel
theorem dm_97_39 : decode (kb_ 97) 39 = .ok (.invokevirtual 182, 3) := by decide +kernel
theorem dm_97_42 : decode (kb_ 97) 42 = .ok (.iadd, 1) := by decide +kernel
theorem dm_97_43 : decode (kb_ 97) 43 = .ok (.istore_n 3, 1) := by decide +kernel
theorem dm_97_44 : decode (kb_ 97) 44 = .ok (.iload_n 2, 1) := by decide +kernel
theorem dm_97_45 : decode (kb_ 97) 45 = .ok (.iload 4, 2) := by decide +kernel
theorem dm_97_47 : decode (kb_ 97) 47 = .ok (.iadd, 1) := by decide +kernel
theorem dm_97_48 : decode (kb_ 97) 48 = .ok (.aload_n 0, 1) := by decide +kernel
theorem dm_97_49 : decode (kb_ 97) 49 = .ok (.getfield 80, 3) := by decide +kernel
theorem dm_97_52 : decode (kb_ 97) 52 = .ok (.iload_n 1, 1) := by decide +kernel
theorem dm_97_53 : decode (kb_ 97) 53 = .ok (.iaload, 1) := by decide +kernel
theorem dm_97_54 : decode (kb_ 97) 54 = .ok (.if_icmp .ne (7), 3) := by decide +kernel
theorem dm_97_57 : decode (kb_ 97) 57 = .ok (.iconst (1), 1) := by decide +kernel
theorem dm_97_58 : decode (kb_ 97) 58 = .ok (.goto (4), 3) := by decide +kernel
theorem dm_97_61 : decode (kb_ 97) 61 = .ok (.iconst (0), 1) := by decide +kernel
theorem dm_97_62 : decode (kb_ 97) 62 = .ok (.istore 5, 2) := by decide +kernel
theorem dm_97_64 : decode (kb_ 97) 64 = .ok (.iload 5, 2) := by decide +kernel
theorem dm_97_66 : decode (kb_ 97) 66 = .ok (.ifCond .eq (7), 3) := by decide +kernel
theorem dm_97_69 : decode (kb_ 97) 69 = .ok (.iconst (0), 1) := by decide +kernel
theorem dm_97_70 : decode (kb_ 97) 70 = .ok (.goto (26), 3) := by decide +kernel
theorem dm_97_73 : decode (kb_ 97) 73 = .ok (.aload_n 0, 1) := by decide +kernel
theorem dm_97_74 : decode (kb_ 97) 74 = .ok (.getfield 104, 3) := by decide +kernel
theorem dm_97_77 : decode (kb_ 97) 77 = .ok (.iload_n 3, 1) := by decide +kernel
theorem dm_97_78 : decode (kb_ 97) 78 = .ok (.isub, 1) := by decide +kernel
theorem dm_97_79 : decode (kb_ 97) 79 = .ok (.aload_n 0, 1) := by decide +kernel
theorem dm_97_80 : decode (kb_ 97) 80 = .ok (.getfield 104, 3) := by decide +kernel
theorem dm_97_83 : decode (kb_ 97) 83 = .ok (.iload_n 3, 1) := by decide +kernel
theorem dm_97_84 : decode (kb_ 97) 84 = .ok (.isub, 1) := by decide +kernel
theorem dm_97_85 : decode (kb_ 97) 85 = .ok (.imul, 1) := by decide +kernel
theorem dm_97_86 : decode (kb_ 97) 86 = .ok (.aload_n 0, 1) := by decide +kernel
theorem dm_97_87 : decode (kb_ 97) 87 = .ok (.getfield 46, 3) := by decide +kernel
theorem dm_97_90 : decode (kb_ 97) 90 = .ok (.iload_n 2, 1) := by decide +kernel
theorem dm_97_91 : decode (kb_ 97) 91 = .ok (.iload 4, 2) := by decide +kernel
theorem dm_97_93 : decode (kb_ 97) 93 = .ok (.iadd, 1) := by decide +kernel
theorem dm_97_94 : decode (kb_ 97) 94 = .ok (.iaload, 1) := by decide +kernel
theorem dm_97_95 : decode (kb_ 97) 95 = .ok (.iadd, 1) := by decide +kernel
theorem dm_97_96 : decode (kb_ 97) 96 = .ok (.istore 6, 2) := by decide +kernel
theorem dm_97_98 : decode (kb_ 97) 98 = .ok (.iload_n 3, 1) := by decide +kernel
theorem dm_97_99 : decode (kb_ 97) 99 = .ok (.aload_n 0, 1) := by decide +kernel
theorem dm_97_100 : decode (kb_ 97) 100 = .ok (.getfield 104, 3) := by decide +kernel
theorem dm_97_103 : decode (kb_ 97) 103 = .ok (.if_icmp .gt (40), 3) := by decide +kernel
theorem dm_97_106 : decode (kb_ 97) 106 = .ok (.aload_n 0, 1) := by decide +kernel
theorem dm_97_107 : decode (kb_ 97) 107 = .ok (.getfield 46, 3) := by decide +kernel
theorem dm_97_110 : decode (kb_ 97) 110 = .ok (.iload_n 2, 1) := by decide +kernel
theorem dm_97_111 : decode (kb_ 97) 111 = .ok (.iaload, 1) := by decide +kernel
theorem dm_97_112 : decode (kb_ 97) 112 = .ok (.iconst (-1), 1) := by decide +kernel
theorem dm_97_113 : decode (kb_ 97) 113 = .ok (.if_icmp .eq (14), 3) := by decide +kernel
theorem dm_97_116 : decode (kb_ 97) 116 = .ok (.iload 6, 2) := by decide +kernel
theorem dm_97_118 : decode (kb_ 97) 118 = .ok (.aload_n 0, 1) := by decide +kernel
theorem dm_97_119 : decode (kb_ 97) 119 = .ok (.getfield 46, 3) := by decide +kernel
theorem dm_97_122 : decode (kb_ 97) 122 = .ok (.iload_n 2, 1) := by decide +kernel
theorem dm_97_123 : decode (kb_ 97) 123 = .ok (.iaload, 1) := by decide +kernel
theorem dm_97_124 : decode (kb_ 97) 124 = .ok (.if_icmp .ge (19), 3) := by decide +kernel
theorem dm_97_127 : decode (kb_ 97) 127 = .ok (.aload_n 0, 1) := by decide +kernel
theorem dm_97_128 : decode (kb_ 97) 128 = .ok (.getfield 46, 3) := by decide +kernel
theorem dm_97_131 : decode (kb_ 97) 131 = .ok (.iload_n 2, 1) := by decide +kernel
theorem dm_97_132 : decode (kb_ 97) 132 = .ok (.iload 6, 2) := by decide +kernel
theorem dm_97_134 : decode (kb_ 97) 134 = .ok (.iastore, 1) := by decide +kernel
theorem dm_97_135 : decode (kb_ 97) 135 = .ok (.aload_n 0, 1) := by decide +kernel
theorem dm_97_136 : decode (kb_ 97) 136 = .ok (.getfield 49, 3) := by decide +kernel
theorem dm_97_139 : decode (kb_ 97) 139 = .ok (.iload_n 2, 1) := by decide +kernel
theorem dm_97_140 : decode (kb_ 97) 140 = .ok (.iload 4, 2) := by decide +kernel
theorem dm_97_142 : decode (kb_ 97) 142 = .ok (.iastore, 1) := by decide +kernel
theorem dm_97_143 : decode (kb_ 97) 143 = .ok (.iinc 4 (1), 3) := by decide +kernel
theorem dm_97_146 : decode (kb_ 97) 146 = .ok (.goto (-134), 3) := by decide +kernel
theorem dm_97_149 : decode (kb_ 97) 149 = .ok (.return_, 1) := by decide +kernel
theorem dm_98_0 : decode (kb_ 98) 0 = .ok (.aload_n 0, 1) := by decide +kernel
theorem dm_98_1 : decode (kb_ 98) 1 = .ok (.aload_n 0, 1) := by decide +kernel
theorem dm_98_2 : decode (kb_ 98) 2 = .ok (.getfield 117, 3) := by decide +kernel
theorem dm_98_5 : decode (kb_ 98) 5 = .ok (.iload_n 1, 1) := by decide +kernel
theorem dm_98_6 : decode (kb_ 98) 6 = .ok (.invokestatic 120, 3) := by decide +kernel
theorem dm_98_9 : decode (kb_ 98) 9 = .ok (.iadd, 1) := by decide +kernel
theorem dm_98_10 : decode (kb_ 98) 10 = .ok (.iload_n 2, 1) := by decide +kernel
theorem dm_98_11 : decode (kb_ 98) 11 = .ok (.invokestatic 120, 3) := by decide +kernel
theorem dm_98_14 : decode (kb_ 98) 14 = .ok (.iadd, 1) := by decide +kernel
theorem dm_98_15 : decode (kb_ 98) 15 = .ok (.bipush (32), 2) := by decide +kernel
theorem dm_98_17 : decode (kb_ 98) 17 = .ok (.if_icmp .gt (7), 3) := by decide +kernel
theorem dm_98_20 : decode (kb_ 98) 20 = .ok (.iconst (1), 1) := by decide +kernel
theorem dm_98_21 : decode (kb_ 98) 21 = .ok (.goto (4), 3) := by decide +kernel
theorem dm_98_24 : decode (kb_ 98) 24 = .ok (.iconst (0), 1) := by decide +kernel
theorem dm_98_25 : decode (kb_ 98) 25 = .ok (.iload_n 1, 1) := by decide +kernel
theorem dm_98_26 : decode (kb_ 98) 26 = .ok (.invokestatic 124, 3) := by decide +kernel
theorem dm_98_29 : decode (kb_ 98) 29 = .ok (.ifCond .eq (14), 3) := by decide +kernel
theorem dm_98_32 : decode (kb_ 98) 32 = .ok (.iload_n 2, 1) := by decide +kernel
theorem dm_98_33 : decode (kb_ 98) 33 = .ok (.invokestatic 124, 3) := by decide +kernel
theorem dm_98_36 : decode (kb_ 98) 36 = .ok (.ifCond .eq (7), 3) := by decide +kernel
theorem dm_98_39 : decode (kb_ 98) 39 = .ok (.iconst (1), 1) := by decide +kernel
theorem dm_98_40 : decode (kb_ 98) 40 = .ok (.goto (4), 3) := by decide +kernel
theorem dm_98_43 : decode (kb_ 98) 43 = .ok (.iconst (0), 1) := by decide +kernel
theorem dm_98_44 : decode (kb_ 98) 44 = .ok (.invokevirtual 128, 3) := by decide +kernel
theorem dm_98_47 : decode (kb_ 98) 47 = .ok (.ifCond .ne (5), 3) := by decide +kernel
theorem dm_98_50 : decode (kb_ 98) 50 = .ok (.iconst (0), 1) := by decide +kernel
theorem dm_98_51 : decode (kb_ 98) 51 = .ok (.ireturn, 1) := by decide +kernel
theorem dm_98_52 : decode (kb_ 98) 52 = .ok (.aload_n 0, 1) := by decide +kernel
theorem dm_98_53 : decode (kb_ 98) 53 = .ok (.iload_n 1, 1) := by decide +kernel
theorem dm_98_54 : decode (kb_ 98) 54 = .ok (.invokevirtual 132, 3) := by decide +kernel
theorem dm_98_57 : decode (kb_ 98) 57 = .ok (.aload_n 0, 1) := by decide +kernel
theorem dm_98_58 : decode (kb_ 98) 58 = .ok (.iload_n 2, 1) := by decide +kernel
theorem dm_98_59 : decode (kb_ 98) 59 = .ok (.invokevirtual 132, 3) := by decide +kernel
theorem dm_98_62 : decode (kb_ 98) 62 = .ok (.aload_n 0, 1) := by decide +kernel
theorem dm_98_63 : decode (kb_ 98) 63 = .ok (.getfield 117, 3) := by decide +kernel
theorem dm_98_66 : decode (kb_ 98) 66 = .ok (.ireturn, 1) := by decide +kernel
theorem dm_99_0 : decode (kb_ 99) 0 = .ok (.iload_n 1, 1) := by decide +kernel
theorem dm_99_1 : decode (kb_ 99) 1 = .ok (.aload_n 0, 1) := by decide +kernel
theorem dm_99_2 : decode (kb_ 99) 2 = .ok (.getfield 52, 3) := by decide +kernel
theorem dm_99_5 : decode (kb_ 99) 5 = .ok (.iconst (-1), 1) := by decide +kernel
theorem dm_99_6 : decode (kb_ 99) 6 = .ok (.if_icmp .ne (10), 3) := by decide +kernel
theorem dm_99_9 : decode (kb_ 99) 9 = .ok (.aload_n 0, 1) := by decide +kernel
theorem dm_99_10 : decode (kb_ 99) 10 = .ok (.getfield 110, 3) := by decide +kernel
theorem dm_99_13 : decode (kb_ 99) 13 = .ok (.goto (12), 3) := by decide +kernel
theorem dm_99_16 : decode (kb_ 99) 16 = .ok (.aload_n 0, 1) := by decide +kernel
theorem dm_99_17 : decode (kb_ 99) 17 = .ok (.getfield 56, 3) := by decide +kernel
theorem dm_99_20 : decode (kb_ 99) 20 = .ok (.aload_n 0, 1) := by decide +kernel
theorem dm_99_21 : decode (kb_ 99) 21 = .ok (.getfield 52, 3) := by decide +kernel
theorem dm_99_24 : decode (kb_ 99) 24 = .ok (.iaload, 1) := by decide +kernel
theorem dm_99_25 : decode (kb_ 99) 25 = .ok (.invokestatic 113, 3) := by decide +kernel
theorem dm_99_28 : decode (kb_ 99) 28 = .ok (.ireturn, 1) := by decide +kernel
theorem dm_100_0 : decode (kb_ 100) 0 = .ok (.aload_n 1, 1) := by decide +kernel
theorem dm_100_1 : decode (kb_ 100) 1 = .ok (.invokevirtual 64, 3) := by decide +kernel
theorem dm_100_4 : decode (kb_ 100) 4 = .ok (.aload_n 2, 1) := by decide +kernel
theorem dm_100_5 : decode (kb_ 100) 5 = .ok (.invokevirtual 64, 3) := by decide +kernel
theorem dm_100_8 : decode (kb_ 100) 8 = .ok (.invokestatic 9, 3) := by decide +kernel
theorem dm_100_11 : decode (kb_ 100) 11 = .ok (.istore_n 3, 1) := by decide +kernel
theorem dm_100_12 : decode (kb_ 100) 12 = .ok (.iconst (0), 1) := by decide +kernel
theorem dm_100_13 : decode (kb_ 100) 13 = .ok (.istore 4, 2) := by decide +kernel
theorem dm_100_15 : decode (kb_ 100) 15 = .ok (.iload 4, 2) := by decide +kernel
theorem dm_100_17 : decode (kb_ 100) 17 = .ok (.iload_n 3, 1) := by decide +kernel
theorem dm_100_18 : decode (kb_ 100) 18 = .ok (.if_icmp .ge (40), 3) := by decide +kernel
theorem dm_100_21 : decode (kb_ 100) 21 = .ok (.aload_n 0, 1) := by decide +kernel
theorem dm_100_22 : decode (kb_ 100) 22 = .ok (.aload_n 1, 1) := by decide +kernel
theorem dm_100_23 : decode (kb_ 100) 23 = .ok (.iload 4, 2) := by decide +kernel
theorem dm_100_25 : decode (kb_ 100) 25 = .ok (.invokevirtual 233, 3) := by decide +kernel
theorem dm_100_28 : decode (kb_ 100) 28 = .ok (.invokevirtual 250, 3) := by decide +kernel
theorem dm_100_31 : decode (kb_ 100) 31 = .ok (.aload_n 0, 1) := by decide +kernel
theorem dm_100_32 : decode (kb_ 100) 32 = .ok (.aload_n 2, 1) := by decide +kernel
theorem dm_100_33 : decode (kb_ 100) 33 = .ok (.iload 4, 2) := by decide +kernel
theorem dm_100_35 : decode (kb_ 100) 35 = .ok (.invokevirtual 233, 3) := by decide +kernel
theorem dm_100_38 : decode (kb_ 100) 38 = .ok (.invokevirtual 250, 3) := by decide +kernel
theorem dm_100_41 : decode (kb_ 100) 41 = .ok (.isub, 1) := by decide +kernel
theorem dm_100_42 : decode (kb_ 100) 42 = .ok (.istore 5, 2) := by decide +kernel
theorem dm_100_44 : decode (kb_ 100) 44 = .ok (.iload 5, 2) := by decide +kernel
theorem dm_100_46 : decode (kb_ 100) 46 = .ok (.ifCond .eq (6), 3) := by decide +kernel
theorem dm_100_49 : decode (kb_ 100) 49 = .ok (.iload 5, 2) := by decide +kernel
theorem dm_100_51 : decode (kb_ 100) 51 = .ok (.ireturn, 1) := by decide +kernel
theorem dm_100_52 : decode (kb_ 100) 52 = .ok (.iinc 4 (1), 3) := by decide +kernel
theorem dm_100_55 : decode (kb_ 100) 55 = .ok (.goto (-40), 3) := by decide +kernel
theorem dm_100_58 : decode (kb_ 100) 58 = .ok (.aload_n 1, 1) := by decide +kernel
theorem dm_100_59 : decode (kb_ 100) 59 = .ok (.invokevirtual 64, 3) := by decide +kernel
theorem dm_100_62 : decode (kb_ 100) 62 = .ok (.aload_n 2, 1) := by decide +kernel
theorem dm_100_63 : decode (kb_ 100) 63 = .ok (.invokevirtual 64, 3) := by decide +kernel
theorem dm_100_66 : decode (kb_ 100) 66 = .ok (.isub, 1) := by decide +kernel
theorem dm_100_67 : decode (kb_ 100) 67 = .ok (.ireturn, 1) := by decide +kernel
theorem dm_101_0 : decode (kb_ 101) 0 = .ok (.iload_n 1, 1) := by decide +kernel
theorem dm_101_1 : decode (kb_ 101) 1 = .ok (.iconst (1), 1) := by decide +kernel
theorem dm_101_2 : decode (kb_ 101) 2 = .ok (.if_icmp .lt (24), 3) := by decide +kernel
theorem dm_101_5 : decode (kb_ 101) 5 = .ok (.iload_n 2, 1) := by decide +kernel
theorem dm_101_6 : decode (kb_ 101) 6 = .ok (.ifCond .lt (20), 3) := by decide +kernel
theorem dm_101_9 : decode (kb_ 101) 9 = .ok (.iload_n 2, 1) := by decide +kernel
theorem dm_101_10 : decode (kb_ 101) 10 = .ok (.aload_n 0, 1) := by decide +kernel
theorem dm_101_11 : decode (kb_ 101) 11 = .ok (.getfield 18, 3) := by decide +kernel
theorem dm_101_14 : decode (kb_ 101) 14 = .ok (.if_icmp .ge (12), 3) := by decide +kernel
theorem dm_101_17 : decode (kb_ 101) 17 = .ok (.iload_n 3, 1) := by decide +kernel
theorem dm_101_18 : decode (kb_ 101) 18 = .ok (.ifCond .lt (8), 3) := by decide +kernel
theorem dm_101_21 : decode (kb_ 101) 21 = .ok (.iload_n 3, 1) := by decide +kernel
theorem dm_101_22 : decode (kb_ 101) 22 = .ok (.iconst (1), 1) := by decide +kernel
theorem dm_101_23 : decode (kb_ 101) 23 = .ok (.if_icmp .le (13), 3) := by decide +kernel
theorem dm_101_26 : decode (kb_ 101) 26 = .ok (.new 106, 3) := by decide +kernel
theorem dm_101_29 : decode (kb_ 101) 29 = .ok (.dup, 1) := by decide +kernel
theorem dm_101_30 : decode (kb_ 101) 30 = .ok (.ldc 186, 2) := by decide +kernel
theorem dm_101_32 : decode (kb_ 101) 32 = .ok (.invokespecial 110, 3) := by decide +kernel
theorem dm_101_35 : decode (kb_ 101) 35 = .ok (.athrow, 1) := by decide +kernel
theorem dm_101_36 : decode (kb_ 101) 36 = .ok (.aload_n 0, 1) := by decide +kernel
theorem dm_101_37 : decode (kb_ 101) 37 = .ok (.getfield 164, 3) := by decide +kernel
theorem dm_101_40 : decode (kb_ 101) 40 = .ok (.ifCond .ne (13), 3) := by decide +kernel
theorem dm_101_43 : decode (kb_ 101) 43 = .ok (.new 72, 3) := by decide +kernel
theorem dm_101_46 : decode (kb_ 101) 46 = .ok (.dup, 1) := by decide +kernel
theorem dm_101_47 : decode (kb_ 101) 47 = .ok (.ldc 173, 2) := by decide +kernel
theorem dm_101_49 : decode (kb_ 101) 49 = .ok (.invokespecial 76, 3) := by decide +kernel
theorem dm_101_52 : decode (kb_ 101) 52 = .ok (.athrow, 1) := by decide +kernel
theorem dm_101_53 : decode (kb_ 101) 53 = .ok (.iload_n 1, 1) := by decide +kernel
theorem dm_101_54 : decode (kb_ 101) 54 = .ok (.aload_n 0, 1) := by decide +kernel
theorem dm_101_55 : decode (kb_ 101) 55 = .ok (.getfield 57, 3) := by decide +kernel
theorem dm_101_58 : decode (kb_ 101) 58 = .ok (.invokevirtual 168, 3) := by decide +kernel
theorem dm_101_61 : decode (kb_ 101) 61 = .ok (.if_icmp .le (13), 3) := by decide +kernel
theorem dm_101_64 : decode (kb_ 101) 64 = .ok (.new 106, 3) := by decide +kernel
theorem dm_101_67 : decode (kb_ 101) 67 = .ok (.dup, 1) := by decide +kernel
theorem dm_101_68 : decode (kb_ 101) 68 = .ok (.ldc 188, 2) := by decide +kernel
theorem dm_101_70 : decode (kb_ 101) 70 = .ok (.invokespecial 110, 3) := by decide +kernel
theorem dm_101_73 : decode (kb_ 101) 73 = .ok (.athrow, 1) := by decide +kernel
theorem dm_101_74 : decode (kb_ 101) 74 = .ok (.aload_n 0, 1) := by decide +kernel
theorem dm_101_75 : decode (kb_ 101) 75 = .ok (.getfield 57, 3) := by decide +kernel
theorem dm_101_78 : decode (kb_ 101) 78 = .ok (.iload_n 1, 1) := by decide +kernel
theorem dm_101_79 : decode (kb_ 101) 79 = .ok (.iload_n 2, 1) := by decide +kernel
theorem dm_101_80 : decode (kb_ 101) 80 = .ok (.iload_n 3, 1) := by decide +kernel
theorem dm_101_81 : decode (kb_ 101) 81 = .ok (.ifCond .ne (7), 3) := by decide +kernel
theorem dm_101_84 : decode (kb_ 101) 84 = .ok (.iconst (1), 1) := by decide +kernel
theorem dm_101_85 : decode (kb_ 101) 85 = .ok (.goto (4), 3) := by decide +kernel
theorem dm_101_88 : decode (kb_ 101) 88 = .ok (.iconst (0), 1) := by decide +kernel
theorem dm_101_89 : decode (kb_ 101) 89 = .ok (.invokevirtual 190, 3) := by decide +kernel
theorem dm_101_92 : decode (kb_ 101) 92 = .ok (.ireturn, 1) := by decide +kernel
theorem dm_102_0 : decode (kb_ 102) 0 = .ok (.aload_n 1, 1) := by decide +kernel
theorem dm_102_1 : decode (kb_ 102) 1 = .ok (.invokevirtual 100, 3) := by decide +kernel
theorem dm_102_4 : decode (kb_ 102) 4 = .ok (.aload_n 1, 1) := by decide +kernel
theorem dm_102_5 : decode (kb_ 102) 5 = .ok (.aload_n 0, 1) := by decide +kernel
theorem dm_102_6 : decode (kb_ 102) 6 = .ok (.getfield 27, 3) := by decide +kernel
theorem dm_102_9 : decode (kb_ 102) 9 = .ok (.invokevirtual 230, 3) := by decide +kernel
theorem dm_102_12 : decode (kb_ 102) 12 = .ok (.aload_n 0, 1) := by decide +kernel
theorem dm_102_13 : decode (kb_ 102) 13 = .ok (.getfield 27, 3) := by decide +kernel
