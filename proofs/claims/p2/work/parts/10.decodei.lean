theorem dm_145_10 : decode (kb_ 145) 10 = .ok (.iconst (-1), 1) := by decide +kernel
theorem dm_145_11 : decode (kb_ 145) 11 = .ok (.iload_n 1, 1) := by decide +kernel
theorem dm_145_12 : decode (kb_ 145) 12 = .ok (.isub, 1) := by decide +kernel
theorem dm_145_13 : decode (kb_ 145) 13 = .ok (.ireturn, 1) := by decide +kernel
theorem dm_145_14 : decode (kb_ 145) 14 = .ok (.aload_n 0, 1) := by decide +kernel
theorem dm_145_15 : decode (kb_ 145) 15 = .ok (.getfield 50, 3) := by decide +kernel
theorem dm_145_18 : decode (kb_ 145) 18 = .ok (.aload_n 0, 1) := by decide +kernel
theorem dm_145_19 : decode (kb_ 145) 19 = .ok (.getfield 40, 3) := by decide +kernel
theorem dm_145_22 : decode (kb_ 145) 22 = .ok (.aload_n 0, 1) := by decide +kernel
theorem dm_145_23 : decode (kb_ 145) 23 = .ok (.getfield 111, 3) := by decide +kernel
theorem dm_145_26 : decode (kb_ 145) 26 = .ok (.aload_n 0, 1) := by decide +kernel
theorem dm_145_27 : decode (kb_ 145) 27 = .ok (.getfield 61, 3) := by decide +kernel
theorem dm_145_30 : decode (kb_ 145) 30 = .ok (.invokevirtual 160, 3) := by decide +kernel
theorem dm_145_33 : decode (kb_ 145) 33 = .ok (.istore_n 2, 1) := by decide +kernel
theorem dm_145_34 : decode (kb_ 145) 34 = .ok (.iload_n 2, 1) := by decide +kernel
theorem dm_145_35 : decode (kb_ 145) 35 = .ok (.iconst (-1), 1) := by decide +kernel
theorem dm_145_36 : decode (kb_ 145) 36 = .ok (.if_icmp .eq (8), 3) := by decide +kernel
theorem dm_145_39 : decode (kb_ 145) 39 = .ok (.bipush (-101), 2) := by decide +kernel
theorem dm_145_41 : decode (kb_ 145) 41 = .ok (.iload_n 2, 1) := by decide +kernel
theorem dm_145_42 : decode (kb_ 145) 42 = .ok (.isub, 1) := by decide +kernel
theorem dm_145_43 : decode (kb_ 145) 43 = .ok (.ireturn, 1) := by decide +kernel
theorem dm_145_44 : decode (kb_ 145) 44 = .ok (.aload_n 0, 1) := by decide +kernel
theorem dm_145_45 : decode (kb_ 145) 45 = .ok (.getfield 57, 3) := by decide +kernel
theorem dm_145_48 : decode (kb_ 145) 48 = .ok (.astore_n 3, 1) := by decide +kernel
theorem dm_145_49 : decode (kb_ 145) 49 = .ok (.aload_n 0, 1) := by decide +kernel
theorem dm_145_50 : decode (kb_ 145) 50 = .ok (.aload_n 0, 1) := by decide +kernel
theorem dm_145_51 : decode (kb_ 145) 51 = .ok (.getfield 61, 3) := by decide +kernel
theorem dm_145_54 : decode (kb_ 145) 54 = .ok (.putfield 57, 3) := by decide +kernel
theorem dm_145_57 : decode (kb_ 145) 57 = .ok (.aload_n 0, 1) := by decide +kernel
theorem dm_145_58 : decode (kb_ 145) 58 = .ok (.aload_n 3, 1) := by decide +kernel
theorem dm_145_59 : decode (kb_ 145) 59 = .ok (.putfield 61, 3) := by decide +kernel
theorem dm_145_62 : decode (kb_ 145) 62 = .ok (.aload_n 0, 1) := by decide +kernel
theorem dm_145_63 : decode (kb_ 145) 63 = .ok (.iconst (1), 1) := by decide +kernel
theorem dm_145_64 : decode (kb_ 145) 64 = .ok (.putfield 164, 3) := by decide +kernel
theorem dm_145_67 : decode (kb_ 145) 67 = .ok (.aload_n 0, 1) := by decide +kernel
theorem dm_145_68 : decode (kb_ 145) 68 = .ok (.getfield 57, 3) := by decide +kernel
theorem dm_145_71 : decode (kb_ 145) 71 = .ok (.invokevirtual 168, 3) := by decide +kernel
theorem dm_145_74 : decode (kb_ 145) 74 = .ok (.ireturn, 1) := by decide +kernel
theorem dm_146_0 : decode (kb_ 146) 0 = .ok (.new 8, 3) := by decide +kernel
theorem dm_146_3 : decode (kb_ 146) 3 = .ok (.dup, 1) := by decide +kernel
theorem dm_146_4 : decode (kb_ 146) 4 = .ok (.aload_n 0, 1) := by decide +kernel
theorem dm_146_5 : decode (kb_ 146) 5 = .ok (.iconst (0), 1) := by decide +kernel
theorem dm_146_6 : decode (kb_ 146) 6 = .ok (.invokestatic 58, 3) := by decide +kernel
theorem dm_146_9 : decode (kb_ 146) 9 = .ok (.aload_n 0, 1) := by decide +kernel
theorem dm_146_10 : decode (kb_ 146) 10 = .ok (.iconst (1), 1) := by decide +kernel
theorem dm_146_11 : decode (kb_ 146) 11 = .ok (.invokestatic 58, 3) := by decide +kernel
theorem dm_146_14 : decode (kb_ 146) 14 = .ok (.invokespecial 64, 3) := by decide +kernel
theorem dm_146_17 : decode (kb_ 146) 17 = .ok (.astore_n 1, 1) := by decide +kernel
theorem dm_146_18 : decode (kb_ 146) 18 = .ok (.new 67, 3) := by decide +kernel
theorem dm_146_21 : decode (kb_ 146) 21 = .ok (.dup, 1) := by decide +kernel
theorem dm_146_22 : decode (kb_ 146) 22 = .ok (.aload_n 0, 1) := by decide +kernel
theorem dm_146_23 : decode (kb_ 146) 23 = .ok (.iconst (0), 1) := by decide +kernel
theorem dm_146_24 : decode (kb_ 146) 24 = .ok (.invokestatic 58, 3) := by decide +kernel
theorem dm_146_27 : decode (kb_ 146) 27 = .ok (.aload_n 0, 1) := by decide +kernel
theorem dm_146_28 : decode (kb_ 146) 28 = .ok (.iconst (1), 1) := by decide +kernel
theorem dm_146_29 : decode (kb_ 146) 29 = .ok (.invokestatic 58, 3) := by decide +kernel
theorem dm_146_32 : decode (kb_ 146) 32 = .ok (.invokespecial 69, 3) := by decide +kernel
theorem dm_146_35 : decode (kb_ 146) 35 = .ok (.astore_n 2, 1) := by decide +kernel
theorem dm_146_36 : decode (kb_ 146) 36 = .ok (.iconst (1), 1) := by decide +kernel
theorem dm_146_37 : decode (kb_ 146) 37 = .ok (.newarray .long, 2) := by decide +kernel
theorem dm_146_39 : decode (kb_ 146) 39 = .ok (.astore_n 3, 1) := by decide +kernel
theorem dm_146_40 : decode (kb_ 146) 40 = .ok (.iconst (2), 1) := by decide +kernel
theorem dm_146_41 : decode (kb_ 146) 41 = .ok (.istore 4, 2) := by decide +kernel
theorem dm_146_43 : decode (kb_ 146) 43 = .ok (.iload 4, 2) := by decide +kernel
theorem dm_146_45 : decode (kb_ 146) 45 = .ok (.aload_n 0, 1) := by decide +kernel
theorem dm_146_46 : decode (kb_ 146) 46 = .ok (.arraylength, 1) := by decide +kernel
theorem dm_146_47 : decode (kb_ 146) 47 = .ok (.iconst (4), 1) := by decide +kernel
theorem dm_146_48 : decode (kb_ 146) 48 = .ok (.isub, 1) := by decide +kernel
theorem dm_146_49 : decode (kb_ 146) 49 = .ok (.if_icmp .gt (586), 3) := by decide +kernel
theorem dm_146_52 : decode (kb_ 146) 52 = .ok (.aload_n 0, 1) := by decide +kernel
theorem dm_146_53 : decode (kb_ 146) 53 = .ok (.iload 4, 2) := by decide +kernel
theorem dm_146_55 : decode (kb_ 146) 55 = .ok (.iaload, 1) := by decide +kernel
theorem dm_146_56 : decode (kb_ 146) 56 = .ok (.bipush (15), 2) := by decide +kernel
theorem dm_146_58 : decode (kb_ 146) 58 = .ok (.iand, 1) := by decide +kernel
theorem dm_146_59 : decode (kb_ 146) 59 = .ok (.tableswitch (570) (0) (13) #[69, 137, 153, 181, 221, 273, 313, 329, 342, 370, 398, 450, 502, 542], 69) := by decide +kernel
theorem dm_146_128 : decode (kb_ 146) 128 = .ok (.aload_n 1, 1) := by decide +kernel
theorem dm_146_129 : decode (kb_ 146) 129 = .ok (.aload_n 0, 1) := by decide +kernel
theorem dm_146_130 : decode (kb_ 146) 130 = .ok (.iload 4, 2) := by decide +kernel
theorem dm_146_132 : decode (kb_ 146) 132 = .ok (.iconst (1), 1) := by decide +kernel
theorem dm_146_133 : decode (kb_ 146) 133 = .ok (.iadd, 1) := by decide +kernel
theorem dm_146_134 : decode (kb_ 146) 134 = .ok (.iaload, 1) := by decide +kernel
theorem dm_146_135 : decode (kb_ 146) 135 = .ok (.aload_n 0, 1) := by decide +kernel
theorem dm_146_136 : decode (kb_ 146) 136 = .ok (.iload 4, 2) := by decide +kernel
theorem dm_146_138 : decode (kb_ 146) 138 = .ok (.iconst (2), 1) := by decide +kernel
theorem dm_146_139 : decode (kb_ 146) 139 = .ok (.iadd, 1) := by decide +kernel
theorem dm_146_140 : decode (kb_ 146) 140 = .ok (.iaload, 1) := by decide +kernel
theorem dm_146_141 : decode (kb_ 146) 141 = .ok (.aload_n 3, 1) := by decide +kernel
theorem dm_146_142 : decode (kb_ 146) 142 = .ok (.invokestatic 70, 3) := by decide +kernel
theorem dm_146_145 : decode (kb_ 146) 145 = .ok (.istore 5, 2) := by decide +kernel
theorem dm_146_147 : decode (kb_ 146) 147 = .ok (.aload_n 2, 1) := by decide +kernel
theorem dm_146_148 : decode (kb_ 146) 148 = .ok (.aload_n 0, 1) := by decide +kernel
theorem dm_146_149 : decode (kb_ 146) 149 = .ok (.iload 4, 2) := by decide +kernel
theorem dm_146_151 : decode (kb_ 146) 151 = .ok (.iconst (1), 1) := by decide +kernel
theorem dm_146_152 : decode (kb_ 146) 152 = .ok (.iadd, 1) := by decide +kernel
theorem dm_146_153 : decode (kb_ 146) 153 = .ok (.iaload, 1) := by decide +kernel
theorem dm_146_154 : decode (kb_ 146) 154 = .ok (.aload_n 0, 1) := by decide +kernel
theorem dm_146_155 : decode (kb_ 146) 155 = .ok (.iload 4, 2) := by decide +kernel
theorem dm_146_157 : decode (kb_ 146) 157 = .ok (.iconst (2), 1) := by decide +kernel
theorem dm_146_158 : decode (kb_ 146) 158 = .ok (.iadd, 1) := by decide +kernel
theorem dm_146_159 : decode (kb_ 146) 159 = .ok (.iaload, 1) := by decide +kernel
theorem dm_146_160 : decode (kb_ 146) 160 = .ok (.invokevirtual 73, 3) := by decide +kernel
theorem dm_146_163 : decode (kb_ 146) 163 = .ok (.istore 6, 2) := by decide +kernel
theorem dm_146_165 : decode (kb_ 146) 165 = .ok (.aload_n 2, 1) := by decide +kernel
theorem dm_146_166 : decode (kb_ 146) 166 = .ok (.invokevirtual 74, 3) := by decide +kernel
theorem dm_146_169 : decode (kb_ 146) 169 = .ok (.iload 5, 2) := by decide +kernel
theorem dm_146_171 : decode (kb_ 146) 171 = .ok (.if_icmp .eq (5), 3) := by decide +kernel
theorem dm_146_174 : decode (kb_ 146) 174 = .ok (.iconst (0), 1) := by decide +kernel
theorem dm_146_175 : decode (kb_ 146) 175 = .ok (.ireturn, 1) := by decide +kernel
theorem dm_146_176 : decode (kb_ 146) 176 = .ok (.iload 5, 2) := by decide +kernel
theorem dm_146_178 : decode (kb_ 146) 178 = .ok (.ifCond .ne (15), 3) := by decide +kernel
theorem dm_146_181 : decode (kb_ 146) 181 = .ok (.aload_n 3, 1) := by decide +kernel
theorem dm_146_182 : decode (kb_ 146) 182 = .ok (.iconst (0), 1) := by decide +kernel
theorem dm_146_183 : decode (kb_ 146) 183 = .ok (.laload, 1) := by decide +kernel
theorem dm_146_184 : decode (kb_ 146) 184 = .ok (.iload 6, 2) := by decide +kernel
theorem dm_146_186 : decode (kb_ 146) 186 = .ok (.i2l, 1) := by decide +kernel
theorem dm_146_187 : decode (kb_ 146) 187 = .ok (.lcmp, 1) := by decide +kernel
theorem dm_146_188 : decode (kb_ 146) 188 = .ok (.ifCond .eq (5), 3) := by decide +kernel
theorem dm_146_191 : decode (kb_ 146) 191 = .ok (.iconst (0), 1) := by decide +kernel
theorem dm_146_192 : decode (kb_ 146) 192 = .ok (.ireturn, 1) := by decide +kernel
theorem dm_146_193 : decode (kb_ 146) 193 = .ok (.goto (436), 3) := by decide +kernel
theorem dm_146_196 : decode (kb_ 146) 196 = .ok (.aload_n 1, 1) := by decide +kernel
theorem dm_146_197 : decode (kb_ 146) 197 = .ok (.aload_n 3, 1) := by decide +kernel
theorem dm_146_198 : decode (kb_ 146) 198 = .ok (.invokestatic 77, 3) := by decide +kernel
theorem dm_146_201 : decode (kb_ 146) 201 = .ok (.istore 5, 2) := by decide +kernel
theorem dm_146_203 : decode (kb_ 146) 203 = .ok (.aload_n 2, 1) := by decide +kernel
theorem dm_146_204 : decode (kb_ 146) 204 = .ok (.invokevirtual 80, 3) := by decide +kernel
theorem dm_146_207 : decode (kb_ 146) 207 = .ok (.istore 6, 2) := by decide +kernel
theorem dm_146_209 : decode (kb_ 146) 209 = .ok (.goto (420), 3) := by decide +kernel
theorem dm_146_212 : decode (kb_ 146) 212 = .ok (.aload_n 1, 1) := by decide +kernel
theorem dm_146_213 : decode (kb_ 146) 213 = .ok (.aload_n 0, 1) := by decide +kernel
theorem dm_146_214 : decode (kb_ 146) 214 = .ok (.iload 4, 2) := by decide +kernel
theorem dm_146_216 : decode (kb_ 146) 216 = .ok (.iconst (1), 1) := by decide +kernel
theorem dm_146_217 : decode (kb_ 146) 217 = .ok (.iadd, 1) := by decide +kernel
theorem dm_146_218 : decode (kb_ 146) 218 = .ok (.iaload, 1) := by decide +kernel
theorem dm_146_219 : decode (kb_ 146) 219 = .ok (.aload_n 3, 1) := by decide +kernel
theorem dm_146_220 : decode (kb_ 146) 220 = .ok (.invokestatic 81, 3) := by decide +kernel
theorem dm_146_223 : decode (kb_ 146) 223 = .ok (.istore 5, 2) := by decide +kernel
theorem dm_146_225 : decode (kb_ 146) 225 = .ok (.aload_n 2, 1) := by decide +kernel
theorem dm_146_226 : decode (kb_ 146) 226 = .ok (.aload_n 0, 1) := by decide +kernel
theorem dm_146_227 : decode (kb_ 146) 227 = .ok (.iload 4, 2) := by decide +kernel
theorem dm_146_229 : decode (kb_ 146) 229 = .ok (.iconst (1), 1) := by decide +kernel
theorem dm_146_230 : decode (kb_ 146) 230 = .ok (.iadd, 1) := by decide +kernel
theorem dm_146_231 : decode (kb_ 146) 231 = .ok (.iaload, 1) := by decide +kernel
theorem dm_146_232 : decode (kb_ 146) 232 = .ok (.invokevirtual 84, 3) := by decide +kernel
theorem dm_146_235 : decode (kb_ 146) 235 = .ok (.istore 6, 2) := by decide +kernel
theorem dm_146_237 : decode (kb_ 146) 237 = .ok (.goto (392), 3) := by decide +kernel
theorem dm_146_240 : decode (kb_ 146) 240 = .ok (.aload_n 1, 1) := by decide +kernel
theorem dm_146_241 : decode (kb_ 146) 241 = .ok (.aload_n 0, 1) := by decide +kernel
theorem dm_146_242 : decode (kb_ 146) 242 = .ok (.iload 4, 2) := by decide +kernel
theorem dm_146_244 : decode (kb_ 146) 244 = .ok (.iconst (1), 1) := by decide +kernel
theorem dm_146_245 : decode (kb_ 146) 245 = .ok (.iadd, 1) := by decide +kernel
theorem dm_146_246 : decode (kb_ 146) 246 = .ok (.iaload, 1) := by decide +kernel
theorem dm_146_247 : decode (kb_ 146) 247 = .ok (.aload_n 0, 1) := by decide +kernel
theorem dm_146_248 : decode (kb_ 146) 248 = .ok (.iload 4, 2) := by decide +kernel
theorem dm_146_250 : decode (kb_ 146) 250 = .ok (.iconst (2), 1) := by decide +kernel
theorem dm_146_251 : decode (kb_ 146) 251 = .ok (.iadd, 1) := by decide +kernel
theorem dm_146_252 : decode (kb_ 146) 252 = .ok (.iaload, 1) := by decide +kernel
theorem dm_146_253 : decode (kb_ 146) 253 = .ok (.aload_n 3, 1) := by decide +kernel
theorem dm_146_254 : decode (kb_ 146) 254 = .ok (.invokestatic 85, 3) := by decide +kernel
theorem dm_146_257 : decode (kb_ 146) 257 = .ok (.istore 5, 2) := by decide +kernel
theorem dm_146_259 : decode (kb_ 146) 259 = .ok (.aload_n 2, 1) := by decide +kernel
theorem dm_146_260 : decode (kb_ 146) 260 = .ok (.aload_n 0, 1) := by decide +kernel
theorem dm_146_261 : decode (kb_ 146) 261 = .ok (.iload 4, 2) := by decide +kernel
theorem dm_146_263 : decode (kb_ 146) 263 = .ok (.iconst (1), 1) := by decide +kernel
theorem dm_146_264 : decode (kb_ 146) 264 = .ok (.iadd, 1) := by decide +kernel
theorem dm_146_265 : decode (kb_ 146) 265 = .ok (.iaload, 1) := by decide +kernel
theorem dm_146_266 : decode (kb_ 146) 266 = .ok (.aload_n 0, 1) := by decide +kernel
theorem dm_146_267 : decode (kb_ 146) 267 = .ok (.iload 4, 2) := by decide +kernel
theorem dm_146_269 : decode (kb_ 146) 269 = .ok (.iconst (2), 1) := by decide +kernel
theorem dm_146_270 : decode (kb_ 146) 270 = .ok (.iadd, 1) := by decide +kernel
theorem dm_146_271 : decode (kb_ 146) 271 = .ok (.iaload, 1) := by decide +kernel
theorem dm_146_272 : decode (kb_ 146) 272 = .ok (.invokevirtual 87, 3) := by decide +kernel
theorem dm_146_275 : decode (kb_ 146) 275 = .ok (.istore 6, 2) := by decide +kernel
theorem dm_146_277 : decode (kb_ 146) 277 = .ok (.goto (352), 3) := by decide +kernel
theorem dm_146_280 : decode (kb_ 146) 280 = .ok (.aload_n 1, 1) := by decide +kernel
theorem dm_146_281 : decode (kb_ 146) 281 = .ok (.aload_n 0, 1) := by decide +kernel
theorem dm_146_282 : decode (kb_ 146) 282 = .ok (.iload 4, 2) := by decide +kernel
theorem dm_146_284 : decode (kb_ 146) 284 = .ok (.iconst (1), 1) := by decide +kernel
theorem dm_146_285 : decode (kb_ 146) 285 = .ok (.iadd, 1) := by decide +kernel
theorem dm_146_286 : decode (kb_ 146) 286 = .ok (.iaload, 1) := by decide +kernel
theorem dm_146_287 : decode (kb_ 146) 287 = .ok (.aload_n 0, 1) := by decide +kernel
theorem dm_146_288 : decode (kb_ 146) 288 = .ok (.iload 4, 2) := by decide +kernel
theorem dm_146_290 : decode (kb_ 146) 290 = .ok (.iconst (2), 1) := by decide +kernel
theorem dm_146_291 : decode (kb_ 146) 291 = .ok (.iadd, 1) := by decide +kernel
theorem dm_146_292 : decode (kb_ 146) 292 = .ok (.iaload, 1) := by decide +kernel
theorem dm_146_293 : decode (kb_ 146) 293 = .ok (.aload_n 0, 1) := by decide +kernel
theorem dm_146_294 : decode (kb_ 146) 294 = .ok (.iload 4, 2) := by decide +kernel
theorem dm_146_296 : decode (kb_ 146) 296 = .ok (.iconst (3), 1) := by decide +kernel
theorem dm_146_297 : decode (kb_ 146) 297 = .ok (.iadd, 1) := by decide +kernel
theorem dm_146_298 : decode (kb_ 146) 298 = .ok (.iaload, 1) := by decide +kernel
theorem dm_146_299 : decode (kb_ 146) 299 = .ok (.aload_n 3, 1) := by decide +kernel
theorem dm_146_300 : decode (kb_ 146) 300 = .ok (.invokestatic 88, 3) := by decide +kernel
theorem dm_146_303 : decode (kb_ 146) 303 = .ok (.istore 5, 2) := by decide +kernel
theorem dm_146_305 : decode (kb_ 146) 305 = .ok (.aload_n 2, 1) := by decide +kernel
theorem dm_146_306 : decode (kb_ 146) 306 = .ok (.aload_n 0, 1) := by decide +kernel
theorem dm_146_307 : decode (kb_ 146) 307 = .ok (.iload 4, 2) := by decide +kernel
theorem dm_146_309 : decode (kb_ 146) 309 = .ok (.iconst (1), 1) := by decide +kernel
theorem dm_146_310 : decode (kb_ 146) 310 = .ok (.iadd, 1) := by decide +kernel
theorem dm_146_311 : decode (kb_ 146) 311 = .ok (.iaload, 1) := by decide +kernel
theorem dm_146_312 : decode (kb_ 146) 312 = .ok (.aload_n 0, 1) := by decide +kernel
theorem dm_146_313 : decode (kb_ 146) 313 = .ok (.iload 4, 2) := by decide +kernel
theorem dm_146_315 : decode (kb_ 146) 315 = .ok (.iconst (2), 1) := by decide +kernel
theorem dm_146_316 : decode (kb_ 146) 316 = .ok (.iadd, 1) := by decide +kernel
theorem dm_146_317 : decode (kb_ 146) 317 = .ok (.iaload, 1) := by decide +kernel
theorem dm_146_318 : decode (kb_ 146) 318 = .ok (.aload_n 0, 1) := by decide +kernel
theorem dm_146_319 : decode (kb_ 146) 319 = .ok (.iload 4, 2) := by decide +kernel
theorem dm_146_321 : decode (kb_ 146) 321 = .ok (.iconst (3), 1) := by decide +kernel
theorem dm_146_322 : decode (kb_ 146) 322 = .ok (.iadd, 1) := by decide +kernel
theorem dm_146_323 : decode (kb_ 146) 323 = .ok (.iaload, 1) := by decide +kernel
theorem dm_146_324 : decode (kb_ 146) 324 = .ok (.invokevirtual 91, 3) := by decide +kernel
theorem dm_146_327 : decode (kb_ 146) 327 = .ok (.istore 6, 2) := by decide +kernel
theorem dm_146_329 : decode (kb_ 146) 329 = .ok (.goto (300), 3) := by decide +kernel
theorem dm_146_332 : decode (kb_ 146) 332 = .ok (.aload_n 1, 1) := by decide +kernel
theorem dm_146_333 : decode (kb_ 146) 333 = .ok (.aload_n 0, 1) := by decide +kernel
theorem dm_146_334 : decode (kb_ 146) 334 = .ok (.iload 4, 2) := by decide +kernel
theorem dm_146_336 : decode (kb_ 146) 336 = .ok (.iconst (1), 1) := by decide +kernel
theorem dm_146_337 : decode (kb_ 146) 337 = .ok (.iadd, 1) := by decide +kernel
theorem dm_146_338 : decode (kb_ 146) 338 = .ok (.iaload, 1) := by decide +kernel
theorem dm_146_339 : decode (kb_ 146) 339 = .ok (.aload_n 0, 1) := by decide +kernel
theorem dm_146_340 : decode (kb_ 146) 340 = .ok (.iload 4, 2) := by decide +kernel
theorem dm_146_342 : decode (kb_ 146) 342 = .ok (.iconst (2), 1) := by decide +kernel
theorem dm_146_343 : decode (kb_ 146) 343 = .ok (.iadd, 1) := by decide +kernel
theorem dm_146_344 : decode (kb_ 146) 344 = .ok (.iaload, 1) := by decide +kernel
theorem dm_146_345 : decode (kb_ 146) 345 = .ok (.aload_n 3, 1) := by decide +kernel
theorem dm_146_346 : decode (kb_ 146) 346 = .ok (.invokestatic 92, 3) := by decide +kernel
theorem dm_146_349 : decode (kb_ 146) 349 = .ok (.istore 5, 2) := by decide +kernel
theorem dm_146_351 : decode (kb_ 146) 351 = .ok (.aload_n 2, 1) := by decide +kernel
theorem dm_146_352 : decode (kb_ 146) 352 = .ok (.aload_n 0, 1) := by decide +kernel
theorem dm_146_353 : decode (kb_ 146) 353 = .ok (.iload 4, 2) := by decide +kernel
theorem dm_146_355 : decode (kb_ 146) 355 = .ok (.iconst (1), 1) := by decide +kernel
theorem dm_146_356 : decode (kb_ 146) 356 = .ok (.iadd, 1) := by decide +kernel
theorem dm_146_357 : decode (kb_ 146) 357 = .ok (.iaload, 1) := by decide +kernel
theorem dm_146_358 : decode (kb_ 146) 358 = .ok (.aload_n 0, 1) := by decide +kernel
theorem dm_146_359 : decode (kb_ 146) 359 = .ok (.iload 4, 2) := by decide +kernel
theorem dm_146_361 : decode (kb_ 146) 361 = .ok (.iconst (2), 1) := by decide +kernel
theorem dm_146_362 : decode (kb_ 146) 362 = .ok (.iadd, 1) := by decide +kernel
theorem dm_146_363 : decode (kb_ 146) 363 = .ok (.iaload, 1) := by decide +kernel
theorem dm_146_364 : decode (kb_ 146) 364 = .ok (.invokevirtual 94, 3) := by decide +kernel
theorem dm_146_367 : decode (kb_ 146) 367 = .ok (.istore 6, 2) := by decide +kernel
theorem dm_146_369 : decode (kb_ 146) 369 = .ok (.goto (260), 3) := by decide +kernel
theorem dm_146_372 : decode (kb_ 146) 372 = .ok (.aload_n 1, 1) := by decide +kernel
theorem dm_146_373 : decode (kb_ 146) 373 = .ok (.aload_n 3, 1) := by decide +kernel
theorem dm_146_374 : decode (kb_ 146) 374 = .ok (.invokestatic 95, 3) := by decide +kernel
theorem dm_146_377 : decode (kb_ 146) 377 = .ok (.istore 5, 2) := by decide +kernel
theorem dm_146_379 : decode (kb_ 146) 379 = .ok (.aload_n 2, 1) := by decide +kernel
theorem dm_146_380 : decode (kb_ 146) 380 = .ok (.invokevirtual 97, 3) := by decide +kernel
theorem dm_146_383 : decode (kb_ 146) 383 = .ok (.istore 6, 2) := by decide +kernel
theorem dm_146_385 : decode (kb_ 146) 385 = .ok (.goto (244), 3) := by decide +kernel
theorem dm_146_388 : decode (kb_ 146) 388 = .ok (.aload_n 1, 1) := by decide +kernel
theorem dm_146_389 : decode (kb_ 146) 389 = .ok (.invokevirtual 98, 3) := by decide +kernel
theorem dm_146_392 : decode (kb_ 146) 392 = .ok (.pop, 1) := by decide +kernel
theorem dm_146_393 : decode (kb_ 146) 393 = .ok (.aload_n 2, 1) := by decide +kernel
theorem dm_146_394 : decode (kb_ 146) 394 = .ok (.invokevirtual 101, 3) := by decide +kernel
theorem dm_146_397 : decode (kb_ 146) 397 = .ok (.pop, 1) := by decide +kernel
theorem dm_146_398 : decode (kb_ 146) 398 = .ok (.goto (231), 3) := by decide +kernel
theorem dm_146_401 : decode (kb_ 146) 401 = .ok (.aload_n 1, 1) := by decide +kernel
theorem dm_146_402 : decode (kb_ 146) 402 = .ok (.aload_n 0, 1) := by decide +kernel
theorem dm_146_403 : decode (kb_ 146) 403 = .ok (.iload 4, 2) := by decide +kernel
theorem dm_146_405 : decode (kb_ 146) 405 = .ok (.iconst (1), 1) := by decide +kernel
theorem dm_146_406 : decode (kb_ 146) 406 = .ok (.iadd, 1) := by decide +kernel
theorem dm_146_407 : decode (kb_ 146) 407 = .ok (.iaload, 1) := by decide +kernel
theorem dm_146_408 : decode (kb_ 146) 408 = .ok (.aload_n 3, 1) := by decide +kernel
theorem dm_146_409 : decode (kb_ 146) 409 = .ok (.invokestatic 102, 3) := by decide +kernel
theorem dm_146_412 : decode (kb_ 146) 412 = .ok (.istore 5, 2) := by decide +kernel
theorem dm_146_414 : decode (kb_ 146) 414 = .ok (.aload_n 2, 1) := by decide +kernel
theorem dm_146_415 : decode (kb_ 146) 415 = .ok (.aload_n 0, 1) := by decide +kernel
theorem dm_146_416 : decode (kb_ 146) 416 = .ok (.iload 4, 2) := by decide +kernel
theorem dm_146_418 : decode (kb_ 146) 418 = .ok (.iconst (1), 1) := by decide +kernel
theorem dm_146_419 : decode (kb_ 146) 419 = .ok (.iadd, 1) := by decide +kernel
theorem dm_146_420 : decode (kb_ 146) 420 = .ok (.iaload, 1) := by decide +kernel
theorem dm_146_421 : decode (kb_ 146) 421 = .ok (.invokevirtual 104, 3) := by decide +kernel
theorem dm_146_424 : decode (kb_ 146) 424 = .ok (.istore 6, 2) := by decide +kernel
theorem dm_146_426 : decode (kb_ 146) 426 = .ok (.goto (203), 3) := by decide +kernel
theorem dm_146_429 : decode (kb_ 146) 429 = .ok (.aload_n 1, 1) := by decide +kernel
theorem dm_146_430 : decode (kb_ 146) 430 = .ok (.aload_n 0, 1) := by decide +kernel
theorem dm_146_431 : decode (kb_ 146) 431 = .ok (.iload 4, 2) := by decide +kernel
theorem dm_146_433 : decode (kb_ 146) 433 = .ok (.iconst (1), 1) := by decide +kernel
theorem dm_146_434 : decode (kb_ 146) 434 = .ok (.iadd, 1) := by decide +kernel
theorem dm_146_435 : decode (kb_ 146) 435 = .ok (.iaload, 1) := by decide +kernel
theorem dm_146_436 : decode (kb_ 146) 436 = .ok (.aload_n 3, 1) := by decide +kernel
theorem dm_146_437 : decode (kb_ 146) 437 = .ok (.invokestatic 105, 3) := by decide +kernel
theorem dm_146_440 : decode (kb_ 146) 440 = .ok (.istore 5, 2) := by decide +kernel
theorem dm_146_442 : decode (kb_ 146) 442 = .ok (.aload_n 2, 1) := by decide +kernel
theorem dm_146_443 : decode (kb_ 146) 443 = .ok (.aload_n 0, 1) := by decide +kernel
theorem dm_146_444 : decode (kb_ 146) 444 = .ok (.iload 4, 2) := by decide +kernel
theorem dm_146_446 : decode (kb_ 146) 446 = .ok (.iconst (1), 1) := by decide +kernel
theorem dm_146_447 : decode (kb_ 146) 447 = .ok (.iadd, 1) := by decide +kernel
theorem dm_146_448 : decode (kb_ 146) 448 = .ok (.iaload, 1) := by decide +kernel
theorem dm_146_449 : decode (kb_ 146) 449 = .ok (.invokevirtual 107, 3) := by decide +kernel
theorem dm_146_452 : decode (kb_ 146) 452 = .ok (.istore 6, 2) := by decide +kernel
theorem dm_146_454 : decode (kb_ 146) 454 = .ok (.goto (175), 3) := by decide +kernel
theorem dm_146_457 : decode (kb_ 146) 457 = .ok (.aload_n 1, 1) := by decide +kernel
theorem dm_146_458 : decode (kb_ 146) 458 = .ok (.aload_n 0, 1) := by decide +kernel
theorem dm_146_459 : decode (kb_ 146) 459 = .ok (.iload 4, 2) := by decide +kernel
theorem dm_146_461 : decode (kb_ 146) 461 = .ok (.iconst (1), 1) := by decide +kernel
theorem dm_146_462 : decode (kb_ 146) 462 = .ok (.iadd, 1) := by decide +kernel
theorem dm_146_463 : decode (kb_ 146) 463 = .ok (.iaload, 1) := by decide +kernel
theorem dm_146_464 : decode (kb_ 146) 464 = .ok (.aload_n 0, 1) := by decide +kernel
theorem dm_146_465 : decode (kb_ 146) 465 = .ok (.iload 4, 2) := by decide +kernel
theorem dm_146_467 : decode (kb_ 146) 467 = .ok (.iconst (2), 1) := by decide +kernel
theorem dm_146_468 : decode (kb_ 146) 468 = .ok (.iadd, 1) := by decide +kernel
theorem dm_146_469 : decode (kb_ 146) 469 = .ok (.iaload, 1) := by decide +kernel
theorem dm_146_470 : decode (kb_ 146) 470 = .ok (.aload_n 0, 1) := by decide +kernel
theorem dm_146_471 : decode (kb_ 146) 471 = .ok (.iload 4, 2) := by decide +kernel
theorem dm_146_473 : decode (kb_ 146) 473 = .ok (.iconst (3), 1) := by decide +kernel
theorem dm_146_474 : decode (kb_ 146) 474 = .ok (.iadd, 1) := by decide +kernel
theorem dm_146_475 : decode (kb_ 146) 475 = .ok (.iaload, 1) := by decide +kernel
theorem dm_146_476 : decode (kb_ 146) 476 = .ok (.aload_n 3, 1) := by decide +kernel
theorem dm_146_477 : decode (kb_ 146) 477 = .ok (.invokestatic 108, 3) := by decide +kernel
theorem dm_146_480 : decode (kb_ 146) 480 = .ok (.istore 5, 2) := by decide +kernel
theorem dm_146_482 : decode (kb_ 146) 482 = .ok (.aload_n 2, 1) := by decide +kernel
theorem dm_146_483 : decode (kb_ 146) 483 = .ok (.aload_n 0, 1) := by decide +kernel
theorem dm_146_484 : decode (kb_ 146) 484 = .ok (.iload 4, 2) := by decide +kernel
theorem dm_146_486 : decode (kb_ 146) 486 = .ok (.iconst (1), 1) := by decide +kernel
theorem dm_146_487 : decode (kb_ 146) 487 = .ok (.iadd, 1) := by decide +kernel
theorem dm_146_488 : decode (kb_ 146) 488 = .ok (.iaload, 1) := by decide +kernel
theorem dm_146_489 : decode (kb_ 146) 489 = .ok (.aload_n 0, 1) := by decide +kernel
theorem dm_146_490 : decode (kb_ 146) 490 = .ok (.iload 4, 2) := by decide +kernel
theorem dm_146_492 : decode (kb_ 146) 492 = .ok (.iconst (2), 1) := by decide +kernel
theorem dm_146_493 : decode (kb_ 146) 493 = .ok (.iadd, 1) := by decide +kernel
theorem dm_146_494 : decode (kb_ 146) 494 = .ok (.iaload, 1) := by decide +kernel
theorem dm_146_495 : decode (kb_ 146) 495 = .ok (.aload_n 0, 1) := by decide +kernel
theorem dm_146_496 : decode (kb_ 146) 496 = .ok (.iload 4, 2) := by decide +kernel
theorem dm_146_498 : decode (kb_ 146) 498 = .ok (.iconst (3), 1) := by decide +kernel
theorem dm_146_499 : decode (kb_ 146) 499 = .ok (.iadd, 1) := by decide +kernel
theorem dm_146_500 : decode (kb_ 146) 500 = .ok (.iaload, 1) := by decide +kernel
theorem dm_146_501 : decode (kb_ 146) 501 = .ok (.invokevirtual 110, 3) := by decide +kernel
theorem dm_146_504 : decode (kb_ 146) 504 = .ok (.istore 6, 2) := by decide +kernel
theorem dm_146_506 : decode (kb_ 146) 506 = .ok (.goto (123), 3) := by decide +kernel
theorem dm_146_509 : decode (kb_ 146) 509 = .ok (.aload_n 1, 1) := by decide +kernel
theorem dm_146_510 : decode (kb_ 146) 510 = .ok (.aload_n 0, 1) := by decide +kernel
theorem dm_146_511 : decode (kb_ 146) 511 = .ok (.iload 4, 2) := by decide +kernel
theorem dm_146_513 : decode (kb_ 146) 513 = .ok (.iconst (1), 1) := by decide +kernel
theorem dm_146_514 : decode (kb_ 146) 514 = .ok (.iadd, 1) := by decide +kernel
theorem dm_146_515 : decode (kb_ 146) 515 = .ok (.iaload, 1) := by decide +kernel
theorem dm_146_516 : decode (kb_ 146) 516 = .ok (.aload_n 0, 1) := by decide +kernel
theorem dm_146_517 : decode (kb_ 146) 517 = .ok (.iload 4, 2) := by decide +kernel
theorem dm_146_519 : decode (kb_ 146) 519 = .ok (.iconst (2), 1) := by decide +kernel
theorem dm_146_520 : decode (kb_ 146) 520 = .ok (.iadd, 1) := by decide +kernel
theorem dm_146_521 : decode (kb_ 146) 521 = .ok (.iaload, 1) := by decide +kernel
theorem dm_146_522 : decode (kb_ 146) 522 = .ok (.aload_n 0, 1) := by decide +kernel
theorem dm_146_523 : decode (kb_ 146) 523 = .ok (.iload 4, 2) := by decide +kernel
theorem dm_146_525 : decode (kb_ 146) 525 = .ok (.iconst (3), 1) := by decide +kernel
theorem dm_146_526 : decode (kb_ 146) 526 = .ok (.iadd, 1) := by decide +kernel
theorem dm_146_527 : decode (kb_ 146) 527 = .ok (.iaload, 1) := by decide +kernel
theorem dm_146_528 : decode (kb_ 146) 528 = .ok (.aload_n 3, 1) := by decide +kernel
theorem dm_146_529 : decode (kb_ 146) 529 = .ok (.invokestatic 111, 3) := by decide +kernel
theorem dm_146_532 : decode (kb_ 146) 532 = .ok (.istore 5, 2) := by decide +kernel
theorem dm_146_534 : decode (kb_ 146) 534 = .ok (.aload_n 2, 1) := by decide +kernel
theorem dm_146_535 : decode (kb_ 146) 535 = .ok (.aload_n 0, 1) := by decide +kernel
theorem dm_146_536 : decode (kb_ 146) 536 = .ok (.iload 4, 2) := by decide +kernel
theorem dm_146_538 : decode (kb_ 146) 538 = .ok (.iconst (1), 1) := by decide +kernel
theorem dm_146_539 : decode (kb_ 146) 539 = .ok (.iadd, 1) := by decide +kernel
theorem dm_146_540 : decode (kb_ 146) 540 = .ok (.iaload, 1) := by decide +kernel
theorem dm_146_541 : decode (kb_ 146) 541 = .ok (.aload_n 0, 1) := by decide +kernel
theorem dm_146_542 : decode (kb_ 146) 542 = .ok (.iload 4, 2) := by decide +kernel
theorem dm_146_544 : decode (kb_ 146) 544 = .ok (.iconst (2), 1) := by decide +kernel
theorem dm_146_545 : decode (kb_ 146) 545 = .ok (.iadd, 1) := by decide +kernel
theorem dm_146_546 : decode (kb_ 146) 546 = .ok (.iaload, 1) := by decide +kernel
theorem dm_146_547 : decode (kb_ 146) 547 = .ok (.aload_n 0, 1) := by decide +kernel
theorem dm_146_548 : decode (kb_ 146) 548 = .ok (.iload 4, 2) := by decide +kernel
theorem dm_146_550 : decode (kb_ 146) 550 = .ok (.iconst (3), 1) := by decide +kernel
theorem dm_146_551 : decode (kb_ 146) 551 = .ok (.iadd, 1) := by decide +kernel
theorem dm_146_552 : decode (kb_ 146) 552 = .ok (.iaload, 1) := by decide +kernel
theorem dm_146_553 : decode (kb_ 146) 553 = .ok (.invokevirtual 113, 3) := by decide +kernel
theorem dm_146_556 : decode (kb_ 146) 556 = .ok (.istore 6, 2) := by decide +kernel
theorem dm_146_558 : decode (kb_ 146) 558 = .ok (.goto (71), 3) := by decide +kernel
theorem dm_146_561 : decode (kb_ 146) 561 = .ok (.aload_n 1, 1) := by decide +kernel
theorem dm_146_562 : decode (kb_ 146) 562 = .ok (.aload_n 0, 1) := by decide +kernel
theorem dm_146_563 : decode (kb_ 146) 563 = .ok (.iload 4, 2) := by decide +kernel
theorem dm_146_565 : decode (kb_ 146) 565 = .ok (.iconst (1), 1) := by decide +kernel
theorem dm_146_566 : decode (kb_ 146) 566 = .ok (.iadd, 1) := by decide +kernel
theorem dm_146_567 : decode (kb_ 146) 567 = .ok (.iaload, 1) := by decide +kernel
theorem dm_146_568 : decode (kb_ 146) 568 = .ok (.aload_n 0, 1) := by decide +kernel
theorem dm_146_569 : decode (kb_ 146) 569 = .ok (.iload 4, 2) := by decide +kernel
theorem dm_146_571 : decode (kb_ 146) 571 = .ok (.iconst (2), 1) := by decide +kernel
theorem dm_146_572 : decode (kb_ 146) 572 = .ok (.iadd, 1) := by decide +kernel
theorem dm_146_573 : decode (kb_ 146) 573 = .ok (.iaload, 1) := by decide +kernel
theorem dm_146_574 : decode (kb_ 146) 574 = .ok (.aload_n 3, 1) := by decide +kernel
theorem dm_146_575 : decode (kb_ 146) 575 = .ok (.invokestatic 114, 3) := by decide +kernel
theorem dm_146_578 : decode (kb_ 146) 578 = .ok (.istore 5, 2) := by decide +kernel
theorem dm_146_580 : decode (kb_ 146) 580 = .ok (.aload_n 2, 1) := by decide +kernel
theorem dm_146_581 : decode (kb_ 146) 581 = .ok (.aload_n 0, 1) := by decide +kernel
theorem dm_146_582 : decode (kb_ 146) 582 = .ok (.iload 4, 2) := by decide +kernel
theorem dm_146_584 : decode (kb_ 146) 584 = .ok (.iconst (1), 1) := by decide +kernel
theorem dm_146_585 : decode (kb_ 146) 585 = .ok (.iadd, 1) := by decide +kernel
theorem dm_146_586 : decode (kb_ 146) 586 = .ok (.iaload, 1) := by decide +kernel
theorem dm_146_587 : decode (kb_ 146) 587 = .ok (.aload_n 0, 1) := by decide +kernel
theorem dm_146_588 : decode (kb_ 146) 588 = .ok (.iload 4, 2) := by decide +kernel
theorem dm_146_590 : decode (kb_ 146) 590 = .ok (.iconst (2), 1) := by decide +kernel
theorem dm_146_591 : decode (kb_ 146) 591 = .ok (.iadd, 1) := by decide +kernel
theorem dm_146_592 : decode (kb_ 146) 592 = .ok (.iaload, 1) := by decide +kernel
theorem dm_146_593 : decode (kb_ 146) 593 = .ok (.invokevirtual 116, 3) := by decide +kernel
theorem dm_146_596 : decode (kb_ 146) 596 = .ok (.istore 6, 2) := by decide +kernel
theorem dm_146_598 : decode (kb_ 146) 598 = .ok (.goto (31), 3) := by decide +kernel
theorem dm_146_601 : decode (kb_ 146) 601 = .ok (.aload_n 1, 1) := by decide +kernel
theorem dm_146_602 : decode (kb_ 146) 602 = .ok (.aload_n 0, 1) := by decide +kernel
theorem dm_146_603 : decode (kb_ 146) 603 = .ok (.iload 4, 2) := by decide +kernel
theorem dm_146_605 : decode (kb_ 146) 605 = .ok (.iconst (1), 1) := by decide +kernel
theorem dm_146_606 : decode (kb_ 146) 606 = .ok (.iadd, 1) := by decide +kernel
theorem dm_146_607 : decode (kb_ 146) 607 = .ok (.iaload, 1) := by decide +kernel
theorem dm_146_608 : decode (kb_ 146) 608 = .ok (.aload_n 3, 1) := by decide +kernel
theorem dm_146_609 : decode (kb_ 146) 609 = .ok (.invokestatic 117, 3) := by decide +kernel
theorem dm_146_612 : decode (kb_ 146) 612 = .ok (.istore 5, 2) := by decide +kernel
theorem dm_146_614 : decode (kb_ 146) 614 = .ok (.aload_n 2, 1) := by decide +kernel
theorem dm_146_615 : decode (kb_ 146) 615 = .ok (.aload_n 0, 1) := by decide +kernel
theorem dm_146_616 : decode (kb_ 146) 616 = .ok (.iload 4, 2) := by decide +kernel
theorem dm_146_618 : decode (kb_ 146) 618 = .ok (.iconst (1), 1) := by decide +kernel
theorem dm_146_619 : decode (kb_ 146) 619 = .ok (.iadd, 1) := by decide +kernel
theorem dm_146_620 : decode (kb_ 146) 620 = .ok (.iaload, 1) := by decide +kernel
theorem dm_146_621 : decode (kb_ 146) 621 = .ok (.invokevirtual 119, 3) := by decide +kernel
theorem dm_146_624 : decode (kb_ 146) 624 = .ok (.istore 6, 2) := by decide +kernel
theorem dm_146_626 : decode (kb_ 146) 626 = .ok (.goto (3), 3) := by decide +kernel
theorem dm_146_629 : decode (kb_ 146) 629 = .ok (.iinc 4 (4), 3) := by decide +kernel
theorem dm_146_632 : decode (kb_ 146) 632 = .ok (.goto (-589), 3) := by decide +kernel
theorem dm_146_635 : decode (kb_ 146) 635 = .ok (.iconst (1), 1) := by decide +kernel
theorem dm_146_636 : decode (kb_ 146) 636 = .ok (.ireturn, 1) := by decide +kernel
